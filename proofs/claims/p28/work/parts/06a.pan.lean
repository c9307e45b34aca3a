abbrev rmX7_append : Room := ({ frames := 6, cells := 1, slots := 6, locals := 90 } : Room)
def f_X7_append_b11 (v0 : TXv) : Option ((Int32 × TXv) ⊕ (Nat × TXv)) :=
  some (.inr (1, v0))
set_option maxRecDepth 100000 in
set_option maxHeartbeats 4000000 in
theorem j_X7_append_b11 {p : Program} {l : Launch} {e : Env} {s : State} {m : MethodId} {args : Array Value} {below : List Frame} {meth : Method} {c : Code} {A : Nat → Prop} {D : va_G} {cy : Nat → ClassId} {ad : (Nat → Nat) × (Nat → Nat)} (X : gK p s m args meth c A D cy ad cX7_append 2 RX7) (hr : meth.sig.returnType = (some .int)) (hne : ∀ x ∈ c.exceptionTable.toList, False) (hfl : l.stackTraces = false) {h0 h1 h2 h3 h4 h5 h6 h7 h8 h9 t1 : Nat} (v0 : TXv) {q : (Int32 × TXv) ⊕ (Nat × TXv)} (hf : f_X7_append_b11 v0 = some q) : GW p l e rmX7_append s m args below meth c A D 2 0 0 (vx_MQ below (xmQ D cy A (Sum.elim (fun q => Sum.inl ((some (.int q.1)), [FP h0 h1 h2 h3 h4 h5 h6 h7 h8 h9, TX cy h1 t1 q.2])) (fun q => Sum.inr (q.1, [FP h0 h1 h2 h3 h4 h5 h6 h7 h8 h9, TX cy h1 t1 q.2])) q : xRes)) (xmX D cy A (Sum.elim (fun q => Sum.inl ((some (.int q.1)), [FP h0 h1 h2 h3 h4 h5 h6 h7 h8 h9, TX cy h1 t1 q.2])) (fun q => Sum.inr (q.1, [FP h0 h1 h2 h3 h4 h5 h6 h7 h8 h9, TX cy h1 t1 q.2])) q : xRes)) args s 1 6 A) 11 [] [] [FP h0 h1 h2 h3 h4 h5 h6 h7 h8 h9, TX cy h1 t1 v0] := by
  unfold f_X7_append_b11 at hf
  have hf := Option.some.inj hf
  subst hf
  exact g_throwS X hne hfl 1 5 (by decide) rfl rfl dX7_append_11 dX7_append_14 dX7_append_15 dX7_append_17 dX7_append_20 xw_1 ⟨(Nat.le_of_ble_eq_true rfl), (Nat.le_of_ble_eq_true rfl), (Nat.le_of_ble_eq_true rfl), (Nat.le_of_ble_eq_true rfl)⟩ ⟨(Nat.le_of_ble_eq_true rfl), (Nat.le_of_ble_eq_true rfl)⟩
def f_X7_append (v0 : TXv) (p1 : Int32) : Option ((Int32 × TXv) ⊕ (Nat × TXv)) :=
  if p1 < 0 then f_X7_append_b11 v0 else if p1 ≤ (255 : Int32) then if v0.1 < (120 : Int32) then (f_X6_add v0 ((p1.toUInt32 % 65536).toInt32)).bind (fun q363 => some (.inl (q363.1, q363))) else some (.inr (2, v0)) else f_X7_append_b11 v0
set_option maxRecDepth 100000 in
set_option maxHeartbeats 4000000 in
theorem c_X7_append (l : Launch) (D : va_G) (cy : Nat → ClassId) (ad : (Nat → Nat) × (Nat → Nat)) (h0 : Nat) (h1 : Nat) (h2 : Nat) (h3 : Nat) (h4 : Nat) (h5 : Nat) (h6 : Nat) (h7 : Nat) (h8 : Nat) (h9 : Nat) (t1 : Nat) (v0 : TXv) (p1 : Int32) (hfl : l.stackTraces = false) {q : (Int32 × TXv) ⊕ (Nat × TXv)} (hf : f_X7_append v0 p1 = some q) : XM l yX7_append cX7_append 2 (some .int) rmX7_append D cy ad [.ref h0, .int p1] [FP h0 h1 h2 h3 h4 h5 h6 h7 h8 h9, TX cy h1 t1 v0] (Sum.elim (fun q => Sum.inl ((some (.int q.1)), [FP h0 h1 h2 h3 h4 h5 h6 h7 h8 h9, TX cy h1 t1 q.2])) (fun q => Sum.inr (q.1, [FP h0 h1 h2 h3 h4 h5 h6 h7 h8 h9, TX cy h1 t1 q.2])) q : xRes) := by
  refine xm_of (lv0 := [(0, .ref h0), (1, .int p1)]) (by decide) (Nat.le_of_ble_eq_true rfl) rfl ?_
  intro p e s m args below meth c A X hr hne
  have X : gK p s m args meth c A D cy ad cX7_append 2 RX7 := X
  unfold f_X7_append at hf
  refine g_iload_n X dX7_append_0 1 rfl rfl ?_
  refine g_if_lt X 11 dX7_append_1 (by decide) (fun c366 => ?_) (fun c366 => ?_)
  · have hf := opos c366 hf
    refine g_sub [] (lv' := []) rfl ?_
    exact j_X7_append_b11 X hr hne hfl v0 hf
  · have hf := oneg c366 hf
    refine g_iload_n X dX7_append_4 1 rfl rfl ?_
    refine g_sipush X (255 : Int32) dX7_append_5 (by decide) ?_
    refine g_icmp_le X 21 dX7_append_8 (by decide) (fun c365 => ?_) (fun c365 => ?_)
    · have hf := opos c365 hf
      refine g_aload_n X dX7_append_21 0 rfl rfl ?_
      refine g_get X dX7_append_22 ck_X7 0 0 0 rfl rfl (Nat.le_of_ble_eq_true rfl) lkf_X7_10 rfl ?_
      refine g_get X dX7_append_25 ck_X6 1 0 1 rfl rfl (Nat.le_of_ble_eq_true rfl) lkf_X7_74 rfl ?_
      refine g_bipush X (120 : Int32) dX7_append_28 (by decide) ?_
      refine g_icmp_lt X 43 dX7_append_30 (by decide) (fun c364 => ?_) (fun c364 => ?_)
      · have hf := opos c364 hf
        refine g_aload_n X dX7_append_43 0 rfl rfl ?_
        refine g_get X dX7_append_44 ck_X7 0 0 0 rfl rfl (Nat.le_of_ble_eq_true rfl) lkf_X7_10 rfl ?_
        refine g_iload_n X dX7_append_47 1 rfl rfl ?_
        refine g_i2c X dX7_append_48 ?_
        obtain ⟨q363, hq363, hf⟩ := obind hf
        refine g_callV (gs' := [FP h0 h1 h2 h3 h4 h5 h6 h7 h8 h9, TX cy h1 t1 q363]) (rest := []) X dX7_append_49 (c_X6_add l D cy ad h1 t1 v0 ((p1.toUInt32 % 65536).toInt32) hq363) mf_X6_add mv_X6_add lkm_X7_83 ⟨(Nat.le_of_ble_eq_true rfl), (Nat.le_of_ble_eq_true rfl), (Nat.le_of_ble_eq_true rfl), (Nat.le_of_ble_eq_true rfl)⟩ 1 0 rfl rfl rfl rfl [1, 0] _ (by decide : [1, 0].Perm (List.range 2)) rfl (by decide : [1, 0].Perm (List.range 2)) rfl (Nat.le_of_ble_eq_true rfl) rfl ?_
        refine g_aload_n X dX7_append_52 0 rfl rfl ?_
        refine g_get X dX7_append_53 ck_X7 0 0 0 rfl rfl (Nat.le_of_ble_eq_true rfl) lkf_X7_10 rfl ?_
        refine g_get X dX7_append_56 ck_X6 1 0 1 rfl rfl (Nat.le_of_ble_eq_true rfl) lkf_X7_74 rfl ?_
        have hf := Option.some.inj hf
        subst hf
        exact g_xret (Nat.le_of_ble_eq_true rfl) (Nat.le_of_ble_eq_true rfl) (g_iret X hr dX7_append_59)
      · have hf := oneg c364 hf
        have hf := Option.some.inj hf
        subst hf
        exact g_throwS X hne hfl 2 6 (by decide) rfl rfl dX7_append_33 dX7_append_36 dX7_append_37 dX7_append_39 dX7_append_42 xw_2 ⟨(Nat.le_of_ble_eq_true rfl), (Nat.le_of_ble_eq_true rfl), (Nat.le_of_ble_eq_true rfl), (Nat.le_of_ble_eq_true rfl)⟩ ⟨(Nat.le_of_ble_eq_true rfl), (Nat.le_of_ble_eq_true rfl)⟩
    · have hf := oneg c365 hf
      refine g_sub [] (lv' := []) rfl ?_
      exact j_X7_append_b11 X hr hne hfl v0 hf
abbrev rmX7_errorPosition : Room := ({ frames := 6, cells := 0, slots := 0, locals := 138 } : Room)
def f_X7_errorPosition_B9 (z : Int32 × TXv) : Option ((Int32 × TXv) ⊕ ((TXv))) :=
  if (120 : Int32) ≤ z.1 then some (.inr ((z.2))) else (f_X6_hasMore z.2).bind (fun q374 => if (b2i q374) = 0 then some (.inr ((z.2))) else (f_X6_readCommand z.2).bind (fun q375 => some (.inl ((z.1 + (1 : Int32)), q375))))
set_option maxRecDepth 100000 in
set_option maxHeartbeats 4000000 in
theorem b_X7_errorPosition_B9 {p : Program} {l : Launch} {e : Env} {s : State} {m : MethodId} {args : Array Value} {below : List Frame} {meth : Method} {c : Code} {A : Nat → Prop} {D : va_G} {cy : Nat → ClassId} {ad : (Nat → Nat) × (Nat → Nat)} {Q : State → Prop} (X : gK p s m args meth c A D cy ad cX7_errorPosition 2 RX7) (hr : meth.sig.returnType = (some .int)) {h0 h1 h2 h3 h4 h5 h6 h7 h8 h9 t1 : Nat} (z : Int32 × TXv) {q : (Int32 × TXv) ⊕ ((TXv))} (hf : f_X7_errorPosition_B9 z = some q) (K1 : ∀ s' : Int32 × TXv, q = .inl s' → GW p l e rmX7_errorPosition s m args below meth c A D 2 0 0 Q 9 [(0, .ref h0), (1, .int s'.1)] [] [FP h0 h1 h2 h3 h4 h5 h6 h7 h8 h9, TX cy h1 t1 (s'.2.1, s'.2.2.1, s'.2.2.2.1, s'.2.2.2.2.1, s'.2.2.2.2.2.1, s'.2.2.2.2.2.2.1, s'.2.2.2.2.2.2.2.1, s'.2.2.2.2.2.2.2.2.1, s'.2.2.2.2.2.2.2.2.2)]) (K2 : ∀ e' : TXv, q = .inr (e') → GW p l e rmX7_errorPosition s m args below meth c A D 2 0 0 Q 38 [(0, .ref h0)] [] [FP h0 h1 h2 h3 h4 h5 h6 h7 h8 h9, TX cy h1 t1 (e'.1, e'.2.1, e'.2.2.1, e'.2.2.2.1, e'.2.2.2.2.1, e'.2.2.2.2.2.1, e'.2.2.2.2.2.2.1, e'.2.2.2.2.2.2.2.1, e'.2.2.2.2.2.2.2.2)]) : GW p l e rmX7_errorPosition s m args below meth c A D 2 0 0 Q 9 [(0, .ref h0), (1, .int z.1)] [] [FP h0 h1 h2 h3 h4 h5 h6 h7 h8 h9, TX cy h1 t1 z.2] := by
  unfold f_X7_errorPosition_B9 at hf
  refine g_iload_n X dX7_errorPosition_9 1 rfl rfl ?_
  refine g_bipush X (120 : Int32) dX7_errorPosition_10 (by decide) ?_
  refine g_icmp_ge X 38 dX7_errorPosition_12 (by decide) (fun c377 => ?_) (fun c377 => ?_)
  · have hf := opos c377 hf
    refine g_sub [0] (lv' := [(0, .ref h0)]) rfl ?_
    exact K2 (z.2) (Option.some.inj hf).symm
  · have hf := oneg c377 hf
    refine g_aload_n X dX7_errorPosition_15 0 rfl rfl ?_
    refine g_get X dX7_errorPosition_16 ck_X7 0 0 0 rfl rfl (Nat.le_of_ble_eq_true rfl) lkf_X7_10 rfl ?_
    obtain ⟨q374, hq374, hf⟩ := obind hf
    refine g_callV (gs' := [FP h0 h1 h2 h3 h4 h5 h6 h7 h8 h9, TX cy h1 t1 z.2]) (rest := []) X dX7_errorPosition_19 (c_X6_hasMore l D cy ad h1 t1 z.2 hq374) mf_X6_hasMore mv_X6_hasMore lkm_X7_90 ⟨(Nat.le_of_ble_eq_true rfl), (Nat.le_of_ble_eq_true rfl), (Nat.le_of_ble_eq_true rfl), (Nat.le_of_ble_eq_true rfl)⟩ 1 0 rfl rfl rfl rfl [1, 0] _ (by decide : [1, 0].Perm (List.range 2)) rfl (by decide : [1, 0].Perm (List.range 2)) rfl (Nat.le_of_ble_eq_true rfl) rfl ?_
    refine g_if_eq X 38 dX7_errorPosition_22 (by decide) (fun c376 => ?_) (fun c376 => ?_)
    · have hf := opos c376 hf
      refine g_sub [0] (lv' := [(0, .ref h0)]) rfl ?_
      exact K2 (z.2) (Option.some.inj hf).symm
    · have hf := oneg c376 hf
      refine g_aload_n X dX7_errorPosition_25 0 rfl rfl ?_
      refine g_get X dX7_errorPosition_26 ck_X7 0 0 0 rfl rfl (Nat.le_of_ble_eq_true rfl) lkf_X7_10 rfl ?_
      obtain ⟨q375, hq375, hf⟩ := obind hf
      refine g_callV (gs' := [FP h0 h1 h2 h3 h4 h5 h6 h7 h8 h9, TX cy h1 t1 q375]) (rest := []) X dX7_errorPosition_29 (c_X6_readCommand l D cy ad h1 t1 z.2 hq375) mf_X6_readCommand mv_X6_readCommand lkm_X7_94 ⟨(Nat.le_of_ble_eq_true rfl), (Nat.le_of_ble_eq_true rfl), (Nat.le_of_ble_eq_true rfl), (Nat.le_of_ble_eq_true rfl)⟩ 1 0 rfl rfl rfl rfl [1, 0] _ (by decide : [1, 0].Perm (List.range 2)) rfl (by decide : [1, 0].Perm (List.range 2)) rfl (Nat.le_of_ble_eq_true rfl) rfl ?_
      refine g_iinc (lv' := [(0, .ref h0), (1, .int (z.1 + (1 : Int32)))]) (v := (1 : Int32)) X dX7_errorPosition_32 1 rfl (by decide) [1, 0] (Nat.le_of_ble_eq_true rfl) rfl ?_
      refine g_goto X 9 dX7_errorPosition_35 (by decide) ?_
      exact K1 ((z.1 + (1 : Int32)), q375) (Option.some.inj hf).symm
set_option maxRecDepth 100000 in
set_option maxHeartbeats 4000000 in
theorem w_X7_errorPosition_B9 {p : Program} {l : Launch} {e : Env} {s : State} {m : MethodId} {args : Array Value} {below : List Frame} {meth : Method} {c : Code} {A : Nat → Prop} {D : va_G} {cy : Nat → ClassId} {ad : (Nat → Nat) × (Nat → Nat)} {Q : State → Prop} (X : gK p s m args meth c A D cy ad cX7_errorPosition 2 RX7) (hr : meth.sig.returnType = (some .int)) {h0 h1 h2 h3 h4 h5 h6 h7 h8 h9 t1 : Nat} {n : Nat} {z : Int32 × TXv} {q : (TXv)} (hf : itl (f_X7_errorPosition_B9) n z = some q) (K2 : GW p l e rmX7_errorPosition s m args below meth c A D 2 0 0 Q 38 [(0, .ref h0)] [] [FP h0 h1 h2 h3 h4 h5 h6 h7 h8 h9, TX cy h1 t1 q]) : GW p l e rmX7_errorPosition s m args below meth c A D 2 0 0 Q 9 [(0, .ref h0), (1, .int z.1)] [] [FP h0 h1 h2 h3 h4 h5 h6 h7 h8 h9, TX cy h1 t1 z.2] :=
  itl_ind (f := f_X7_errorPosition_B9) (I := fun z => GW p l e rmX7_errorPosition s m args below meth c A D 2 0 0 Q 9 [(0, .ref h0), (1, .int z.1)] [] [FP h0 h1 h2 h3 h4 h5 h6 h7 h8 h9, TX cy h1 t1 z.2]) (J := (fun q => GW p l e rmX7_errorPosition s m args below meth c A D 2 0 0 Q 38 [(0, .ref h0)] [] [FP h0 h1 h2 h3 h4 h5 h6 h7 h8 h9, TX cy h1 t1 q])) (fun z x h k1 k2 => b_X7_errorPosition_B9 X hr z h (fun s' hs => k1 s' hs) (fun e' he => k2 e' he)) n z q hf K2
def f_X7_errorPosition_b38 (v0 : TXv) : Option (Int32 × TXv) :=
  if v0.2.2.1 = 0 then some ((-1 : Int32), v0) else some (v0.2.1, v0)
set_option maxRecDepth 100000 in
set_option maxHeartbeats 4000000 in
theorem j_X7_errorPosition_b38 {p : Program} {l : Launch} {e : Env} {s : State} {m : MethodId} {args : Array Value} {below : List Frame} {meth : Method} {c : Code} {A : Nat → Prop} {D : va_G} {cy : Nat → ClassId} {ad : (Nat → Nat) × (Nat → Nat)} (X : gK p s m args meth c A D cy ad cX7_errorPosition 2 RX7) (hr : meth.sig.returnType = (some .int)) {h0 h1 h2 h3 h4 h5 h6 h7 h8 h9 t1 : Nat} (v0 : TXv) {q : Int32 × TXv} (hf : f_X7_errorPosition_b38 v0 = some q) : GW p l e rmX7_errorPosition s m args below meth c A D 2 0 0 (MQ below (cmQ D cy A (some (.int q.1)) ([FP h0 h1 h2 h3 h4 h5 h6 h7 h8 h9, TX cy h1 t1 q.2] : List va_W).flatten) args s 0 0 A) 38 [(0, .ref h0)] [] [FP h0 h1 h2 h3 h4 h5 h6 h7 h8 h9, TX cy h1 t1 v0] := by
  unfold f_X7_errorPosition_b38 at hf
  refine g_aload_n X dX7_errorPosition_38 0 rfl rfl ?_
  refine g_get X dX7_errorPosition_39 ck_X7 0 0 0 rfl rfl (Nat.le_of_ble_eq_true rfl) lkf_X7_10 rfl ?_
  refine g_get X dX7_errorPosition_42 ck_X6 1 0 3 rfl rfl (Nat.le_of_ble_eq_true rfl) lkf_X7_97 rfl ?_
  refine g_if_eq X 58 dX7_errorPosition_45 (by decide) (fun c379 => ?_) (fun c379 => ?_)
  · have hf := opos c379 hf
    refine g_iconst X (-1 : Int32) dX7_errorPosition_58 (by decide) ?_
    have hf := Option.some.inj hf
    subst hf
    exact g_iret X hr dX7_errorPosition_59
  · have hf := oneg c379 hf
    refine g_aload_n X dX7_errorPosition_48 0 rfl rfl ?_
    refine g_get X dX7_errorPosition_49 ck_X7 0 0 0 rfl rfl (Nat.le_of_ble_eq_true rfl) lkf_X7_10 rfl ?_
    refine g_get X dX7_errorPosition_52 ck_X6 1 0 2 rfl rfl (Nat.le_of_ble_eq_true rfl) lkf_X7_101 rfl ?_
    refine g_goto X 59 dX7_errorPosition_55 (by decide) ?_
    have hf := Option.some.inj hf
    subst hf
    exact g_iret X hr dX7_errorPosition_59
def f_X7_errorPosition (v0 : TXv) : Option (Int32 × TXv) :=
  (f_X6_readHead v0).bind (fun q373 => (itl (f_X7_errorPosition_B9) FU ((0 : Int32), q373)).bind (fun q378 => f_X7_errorPosition_b38 q378))
set_option maxRecDepth 100000 in
set_option maxHeartbeats 4000000 in
theorem c_X7_errorPosition (l : Launch) (D : va_G) (cy : Nat → ClassId) (ad : (Nat → Nat) × (Nat → Nat)) (h0 : Nat) (h1 : Nat) (h2 : Nat) (h3 : Nat) (h4 : Nat) (h5 : Nat) (h6 : Nat) (h7 : Nat) (h8 : Nat) (h9 : Nat) (t1 : Nat) (v0 : TXv) {q : Int32 × TXv} (hf : f_X7_errorPosition v0 = some q) : CM l yX7_errorPosition cX7_errorPosition 2 (some .int) rmX7_errorPosition D cy ad [.ref h0] [FP h0 h1 h2 h3 h4 h5 h6 h7 h8 h9, TX cy h1 t1 v0] (some (.int q.1)) [FP h0 h1 h2 h3 h4 h5 h6 h7 h8 h9, TX cy h1 t1 q.2] := by
  refine cm_of (lv0 := [(0, .ref h0)]) (by decide) (Nat.le_of_ble_eq_true rfl) rfl ?_
  intro p e s m args below meth c A X hr hn
  have X : gK p s m args meth c A D cy ad cX7_errorPosition 2 RX7 := X
  unfold f_X7_errorPosition at hf
  refine g_aload_n X dX7_errorPosition_0 0 rfl rfl ?_
  refine g_get X dX7_errorPosition_1 ck_X7 0 0 0 rfl rfl (Nat.le_of_ble_eq_true rfl) lkf_X7_10 rfl ?_
  obtain ⟨q373, hq373, hf⟩ := obind hf
  refine g_callV (gs' := [FP h0 h1 h2 h3 h4 h5 h6 h7 h8 h9, TX cy h1 t1 q373]) (rest := []) X dX7_errorPosition_4 (c_X6_readHead l D cy ad h1 t1 v0 hq373) mf_X6_readHead mv_X6_readHead lkm_X7_87 ⟨(Nat.le_of_ble_eq_true rfl), (Nat.le_of_ble_eq_true rfl), (Nat.le_of_ble_eq_true rfl), (Nat.le_of_ble_eq_true rfl)⟩ 1 0 rfl rfl rfl rfl [1, 0] _ (by decide : [1, 0].Perm (List.range 2)) rfl (by decide : [1, 0].Perm (List.range 2)) rfl (Nat.le_of_ble_eq_true rfl) rfl ?_
  refine g_iconst X (0 : Int32) dX7_errorPosition_7 (by decide) ?_
  refine g_istore_n (lv' := [(0, .ref h0), (1, .int (0 : Int32))]) X dX7_errorPosition_8 [1, 0] rfl (Nat.le_of_ble_eq_true rfl) rfl ?_
  obtain ⟨q378, hq378, hf⟩ := obind hf
  refine w_X7_errorPosition_B9 X hr hq378 ?_
  exact j_X7_errorPosition_b38 X hr q378 hf
abbrev rmX7_obeyText : Room := ({ frames := 3, cells := 0, slots := 0, locals := 74 } : Room)
def f_X7_obeyText (v0 : TXv) (v1 : TBv) (v2 : Fn) (v3 : SCv) : Option (Bool × TBv × Fn × SCv) :=
  if v0.2.2.2.2.2.1 = (1 : Int32) then (f_X4_tryArms v1 v0.2.2.2.2.2.2.1 v0.2.2.2.2.2.2.2.1).bind (fun q385 => some (q385.1, q385.2, v2, v3)) else (f_X4_tryWeighing v1 v2 v3 v0.2.2.2.2.2.2.1 v0.2.2.2.2.2.2.2.1).bind (fun q384 => some (q384.1, q384.2.1, q384.2.2.1, q384.2.2.2))
set_option maxRecDepth 100000 in
set_option maxHeartbeats 4000000 in
theorem c_X7_obeyText (l : Launch) (D : va_G) (cy : Nat → ClassId) (ad : (Nat → Nat) × (Nat → Nat)) (h0 : Nat) (h1 : Nat) (h2 : Nat) (h3 : Nat) (h4 : Nat) (h5 : Nat) (h6 : Nat) (h7 : Nat) (h8 : Nat) (h9 : Nat) (t1 : Nat) (a1 : Nat) (a2 : Nat) (a3 : Nat) (a4 : Nat) (v0 : TXv) (v1 : TBv) (v2 : Fn) (v3 : SCv) {q : Bool × TBv × Fn × SCv} (hf : f_X7_obeyText v0 v1 v2 v3 = some q) : CM l yX7_obeyText cX7_obeyText 1 (some .boolean) rmX7_obeyText D cy ad [.ref h0] [FP h0 h1 h2 h3 h4 h5 h6 h7 h8 h9, TX cy h1 t1 v0, TB cy h2 a1 a2 a3 v1, SU cy a2 a4 v2, SC a3 v3] (some (.int (b2i q.1))) [FP h0 h1 h2 h3 h4 h5 h6 h7 h8 h9, TX cy h1 t1 v0, TB cy h2 a1 a2 a3 q.2.1, SU cy a2 a4 q.2.2.1, SC a3 q.2.2.2] := by
  refine cm_of (lv0 := [(0, .ref h0)]) (by decide) (Nat.le_of_ble_eq_true rfl) rfl ?_
  intro p e s m args below meth c A X hr hn
  have X : gK p s m args meth c A D cy ad cX7_obeyText 1 RX7 := X
  unfold f_X7_obeyText at hf
  refine g_aload_n X dX7_obeyText_0 0 rfl rfl ?_
  refine g_get X dX7_obeyText_1 ck_X7 0 0 0 rfl rfl (Nat.le_of_ble_eq_true rfl) lkf_X7_10 rfl ?_
  refine g_get X dX7_obeyText_4 ck_X6 1 0 6 rfl rfl (Nat.le_of_ble_eq_true rfl) lkf_X7_129 rfl ?_
  refine g_iconst X (1 : Int32) dX7_obeyText_7 (by decide) ?_
  refine g_icmp_ne X 33 dX7_obeyText_8 (by decide) (fun c386 => ?_) (fun c386 => ?_)
  · have hf := oneg c386 hf
    refine g_aload_n X dX7_obeyText_33 0 rfl rfl ?_
    refine g_get X dX7_obeyText_34 ck_X7 0 0 1 rfl rfl (Nat.le_of_ble_eq_true rfl) lkf_X7_19 rfl ?_
    refine g_aload_n X dX7_obeyText_37 0 rfl rfl ?_
    refine g_get X dX7_obeyText_38 ck_X7 0 0 0 rfl rfl (Nat.le_of_ble_eq_true rfl) lkf_X7_10 rfl ?_
    refine g_get X dX7_obeyText_41 ck_X6 1 0 7 rfl rfl (Nat.le_of_ble_eq_true rfl) lkf_X7_132 rfl ?_
    refine g_aload_n X dX7_obeyText_44 0 rfl rfl ?_
    refine g_get X dX7_obeyText_45 ck_X7 0 0 0 rfl rfl (Nat.le_of_ble_eq_true rfl) lkf_X7_10 rfl ?_
    refine g_get X dX7_obeyText_48 ck_X6 1 0 8 rfl rfl (Nat.le_of_ble_eq_true rfl) lkf_X7_135 rfl ?_
    obtain ⟨q384, hq384, hf⟩ := obind hf
    refine g_callV (gs' := [FP h0 h1 h2 h3 h4 h5 h6 h7 h8 h9, TX cy h1 t1 v0, TB cy h2 a1 a2 a3 q384.2.1, SU cy a2 a4 q384.2.2.1, SC a3 q384.2.2.2]) (rest := []) X dX7_obeyText_51 (c_X4_tryWeighing l D cy ad h2 a1 a2 a3 a4 v1 v2 v3 v0.2.2.2.2.2.2.1 v0.2.2.2.2.2.2.2.1 hq384) mf_X4_tryWeighing mv_X4_tryWeighing lkm_X7_142 ⟨(Nat.le_of_ble_eq_true rfl), (Nat.le_of_ble_eq_true rfl), (Nat.le_of_ble_eq_true rfl), (Nat.le_of_ble_eq_true rfl)⟩ 2 0 rfl rfl rfl rfl [2, 3, 4, 0, 1] _ (by decide : [2, 3, 4, 0, 1].Perm (List.range 5)) rfl (by decide : [2, 3, 4, 0, 1].Perm (List.range 5)) rfl (Nat.le_of_ble_eq_true rfl) rfl ?_
    have hf := Option.some.inj hf
    subst hf
    exact g_zret (b := q384.1) X hr dX7_obeyText_54
  · have hf := opos c386 hf
    refine g_aload_n X dX7_obeyText_11 0 rfl rfl ?_
    refine g_get X dX7_obeyText_12 ck_X7 0 0 1 rfl rfl (Nat.le_of_ble_eq_true rfl) lkf_X7_19 rfl ?_
    refine g_aload_n X dX7_obeyText_15 0 rfl rfl ?_
    refine g_get X dX7_obeyText_16 ck_X7 0 0 0 rfl rfl (Nat.le_of_ble_eq_true rfl) lkf_X7_10 rfl ?_
    refine g_get X dX7_obeyText_19 ck_X6 1 0 7 rfl rfl (Nat.le_of_ble_eq_true rfl) lkf_X7_132 rfl ?_
    refine g_aload_n X dX7_obeyText_22 0 rfl rfl ?_
    refine g_get X dX7_obeyText_23 ck_X7 0 0 0 rfl rfl (Nat.le_of_ble_eq_true rfl) lkf_X7_10 rfl ?_
    refine g_get X dX7_obeyText_26 ck_X6 1 0 8 rfl rfl (Nat.le_of_ble_eq_true rfl) lkf_X7_135 rfl ?_
    obtain ⟨q385, hq385, hf⟩ := obind hf
    refine g_callV (gs' := [FP h0 h1 h2 h3 h4 h5 h6 h7 h8 h9, TX cy h1 t1 v0, TB cy h2 a1 a2 a3 q385.2, SU cy a2 a4 v2, SC a3 v3]) (rest := []) X dX7_obeyText_29 (c_X4_tryArms l D cy ad h2 a1 a2 a3 v1 v0.2.2.2.2.2.2.1 v0.2.2.2.2.2.2.2.1 hq385) mf_X4_tryArms mv_X4_tryArms lkm_X7_138 ⟨(Nat.le_of_ble_eq_true rfl), (Nat.le_of_ble_eq_true rfl), (Nat.le_of_ble_eq_true rfl), (Nat.le_of_ble_eq_true rfl)⟩ 2 0 rfl rfl rfl rfl [2, 0, 1, 3, 4] _ (by decide : [2, 0, 1, 3, 4].Perm (List.range 5)) rfl (by decide : [2, 0, 1, 3, 4].Perm (List.range 5)) rfl (Nat.le_of_ble_eq_true rfl) rfl ?_
    have hf := Option.some.inj hf
    subst hf
    exact g_zret (b := q385.1) X hr dX7_obeyText_32
abbrev rmX7_load : Room := ({ frames := 7, cells := 1, slots := 6, locals := 159 } : Room)
def f_X7_load_B80_b113 (v0 : TXv) (v1 : TBv) (v2 : Fn) (v3 : SCv) (vh : HIv) (v7 : Int32) (v10 : Int32) (x1 : Int32) (x2 : Int32) : Option ((Int32 × Int32 × TXv × TBv × Fn × SCv) ⊕ ((Int32 × TXv × TBv × Fn × SCv))) :=
  some (.inl (x1, (x2 + (1 : Int32)), v0, v1, v2, v3))
set_option maxRecDepth 100000 in
set_option maxHeartbeats 4000000 in
theorem j_X7_load_B80_b113 {p : Program} {l : Launch} {e : Env} {s : State} {m : MethodId} {args : Array Value} {below : List Frame} {meth : Method} {c : Code} {A : Nat → Prop} {D : va_G} {cy : Nat → ClassId} {ad : (Nat → Nat) × (Nat → Nat)} {Q : State → Prop} (X : gK p s m args meth c A D cy ad cX7_load 3 RX7) (hr : meth.sig.returnType = (some .int)) (hne : ∀ x ∈ c.exceptionTable.toList, False) (hfl : l.stackTraces = false) {h0 h1 h2 h3 h4 h5 h6 h7 h8 h9 t1 a1 a2 a3 a4 r1 d1 e1 : Nat} (v0 : TXv) (v1 : TBv) (v2 : Fn) (v3 : SCv) (vh : HIv) (v7 : Int32) (v10 : Int32) (x1 : Int32) (x2 : Int32) {q : (Int32 × Int32 × TXv × TBv × Fn × SCv) ⊕ ((Int32 × TXv × TBv × Fn × SCv))} (hf : f_X7_load_B80_b113 v0 v1 v2 v3 vh v7 v10 x1 x2 = some q) (K1 : ∀ s' : Int32 × Int32 × TXv × TBv × Fn × SCv, q = .inl s' → GW p l e rmX7_load s m args below meth c A D 3 0 0 Q 80 [(0, .ref h0), (1, .int s'.1), (2, .int s'.2.1)] [] [FP h0 h1 h2 h3 h4 h5 h6 h7 h8 h9, TX cy h1 t1 (s'.2.2.1.1, s'.2.2.1.2.1, s'.2.2.1.2.2.1, s'.2.2.1.2.2.2.1, s'.2.2.1.2.2.2.2.1, s'.2.2.1.2.2.2.2.2.1, s'.2.2.1.2.2.2.2.2.2.1, s'.2.2.1.2.2.2.2.2.2.2.1, s'.2.2.1.2.2.2.2.2.2.2.2), TB cy h2 a1 a2 a3 (s'.2.2.2.1.1, s'.2.2.2.1.2.1, s'.2.2.2.1.2.2.1, s'.2.2.2.1.2.2.2.1, s'.2.2.2.1.2.2.2.2.1, s'.2.2.2.1.2.2.2.2.2.1, s'.2.2.2.1.2.2.2.2.2.2.1, s'.2.2.2.1.2.2.2.2.2.2.2), SU cy a2 a4 s'.2.2.2.2.1, SC a3 (s'.2.2.2.2.2.1, s'.2.2.2.2.2.2.1, s'.2.2.2.2.2.2.2.1, s'.2.2.2.2.2.2.2.2.1, s'.2.2.2.2.2.2.2.2.2.1, s'.2.2.2.2.2.2.2.2.2.2), HI h4 r1 vh, SL h5 d1 v7, SL h6 e1 v10]) (K2 : ∀ e' : Int32 × TXv × TBv × Fn × SCv, q = .inr (e') → GW p l e rmX7_load s m args below meth c A D 3 0 0 Q 119 [(1, .int e'.1)] [] [FP h0 h1 h2 h3 h4 h5 h6 h7 h8 h9, TX cy h1 t1 (e'.2.1.1, e'.2.1.2.1, e'.2.1.2.2.1, e'.2.1.2.2.2.1, e'.2.1.2.2.2.2.1, e'.2.1.2.2.2.2.2.1, e'.2.1.2.2.2.2.2.2.1, e'.2.1.2.2.2.2.2.2.2.1, e'.2.1.2.2.2.2.2.2.2.2), TB cy h2 a1 a2 a3 (e'.2.2.1.1, e'.2.2.1.2.1, e'.2.2.1.2.2.1, e'.2.2.1.2.2.2.1, e'.2.2.1.2.2.2.2.1, e'.2.2.1.2.2.2.2.2.1, e'.2.2.1.2.2.2.2.2.2.1, e'.2.2.1.2.2.2.2.2.2.2), SU cy a2 a4 e'.2.2.2.1, SC a3 (e'.2.2.2.2.1, e'.2.2.2.2.2.1, e'.2.2.2.2.2.2.1, e'.2.2.2.2.2.2.2.1, e'.2.2.2.2.2.2.2.2.1, e'.2.2.2.2.2.2.2.2.2), HI h4 r1 vh, SL h5 d1 v7, SL h6 e1 v10]) : GW p l e rmX7_load s m args below meth c A D 3 0 0 Q 113 [(0, .ref h0), (1, .int x1), (2, .int x2)] [] [FP h0 h1 h2 h3 h4 h5 h6 h7 h8 h9, TX cy h1 t1 v0, TB cy h2 a1 a2 a3 v1, SU cy a2 a4 v2, SC a3 v3, HI h4 r1 vh, SL h5 d1 v7, SL h6 e1 v10] := by
  unfold f_X7_load_B80_b113 at hf
  refine g_iinc (lv' := [(0, .ref h0), (1, .int x1), (2, .int (x2 + (1 : Int32)))]) (v := (1 : Int32)) X dX7_load_113 2 rfl (by decide) [1, 2, 0] (Nat.le_of_ble_eq_true rfl) rfl ?_
  refine g_goto X 80 dX7_load_116 (by decide) ?_
  exact K1 (x1, (x2 + (1 : Int32)), v0, v1, v2, v3) (Option.some.inj hf).symm
def f_X7_load_B80 (vh : HIv) (v7 : Int32) (v10 : Int32) (z : Int32 × Int32 × TXv × TBv × Fn × SCv) : Option ((Int32 × Int32 × TXv × TBv × Fn × SCv) ⊕ ((Int32 × TXv × TBv × Fn × SCv))) :=
  if (120 : Int32) ≤ z.2.1 then some (.inr ((z.1, z.2.2.1, z.2.2.2.1, z.2.2.2.2.1, z.2.2.2.2.2))) else (f_X6_hasMore z.2.2.1).bind (fun q408 => if (b2i q408) = 0 then some (.inr ((z.1, z.2.2.1, z.2.2.2.1, z.2.2.2.2.1, z.2.2.2.2.2))) else (f_X6_readCommand z.2.2.1).bind (fun q409 => (f_X7_obeyText q409 z.2.2.2.1 z.2.2.2.2.1 z.2.2.2.2.2).bind (fun q410 => if (b2i q410.1) = 0 then f_X7_load_B80_b113 q409 q410.2.1 q410.2.2.1 q410.2.2.2 vh v7 v10 (z.1 + (1 : Int32)) z.2.1 else f_X7_load_B80_b113 q409 q410.2.1 q410.2.2.1 q410.2.2.2 vh v7 v10 z.1 z.2.1)))
set_option maxRecDepth 100000 in
set_option maxHeartbeats 4000000 in
theorem b_X7_load_B80 {p : Program} {l : Launch} {e : Env} {s : State} {m : MethodId} {args : Array Value} {below : List Frame} {meth : Method} {c : Code} {A : Nat → Prop} {D : va_G} {cy : Nat → ClassId} {ad : (Nat → Nat) × (Nat → Nat)} {Q : State → Prop} (X : gK p s m args meth c A D cy ad cX7_load 3 RX7) (hr : meth.sig.returnType = (some .int)) (hne : ∀ x ∈ c.exceptionTable.toList, False) (hfl : l.stackTraces = false) {h0 h1 h2 h3 h4 h5 h6 h7 h8 h9 t1 a1 a2 a3 a4 r1 d1 e1 : Nat} (vh : HIv) (v7 : Int32) (v10 : Int32) (z : Int32 × Int32 × TXv × TBv × Fn × SCv) {q : (Int32 × Int32 × TXv × TBv × Fn × SCv) ⊕ ((Int32 × TXv × TBv × Fn × SCv))} (hf : f_X7_load_B80 vh v7 v10 z = some q) (K1 : ∀ s' : Int32 × Int32 × TXv × TBv × Fn × SCv, q = .inl s' → GW p l e rmX7_load s m args below meth c A D 3 0 0 Q 80 [(0, .ref h0), (1, .int s'.1), (2, .int s'.2.1)] [] [FP h0 h1 h2 h3 h4 h5 h6 h7 h8 h9, TX cy h1 t1 (s'.2.2.1.1, s'.2.2.1.2.1, s'.2.2.1.2.2.1, s'.2.2.1.2.2.2.1, s'.2.2.1.2.2.2.2.1, s'.2.2.1.2.2.2.2.2.1, s'.2.2.1.2.2.2.2.2.2.1, s'.2.2.1.2.2.2.2.2.2.2.1, s'.2.2.1.2.2.2.2.2.2.2.2), TB cy h2 a1 a2 a3 (s'.2.2.2.1.1, s'.2.2.2.1.2.1, s'.2.2.2.1.2.2.1, s'.2.2.2.1.2.2.2.1, s'.2.2.2.1.2.2.2.2.1, s'.2.2.2.1.2.2.2.2.2.1, s'.2.2.2.1.2.2.2.2.2.2.1, s'.2.2.2.1.2.2.2.2.2.2.2), SU cy a2 a4 s'.2.2.2.2.1, SC a3 (s'.2.2.2.2.2.1, s'.2.2.2.2.2.2.1, s'.2.2.2.2.2.2.2.1, s'.2.2.2.2.2.2.2.2.1, s'.2.2.2.2.2.2.2.2.2.1, s'.2.2.2.2.2.2.2.2.2.2), HI h4 r1 vh, SL h5 d1 v7, SL h6 e1 v10]) (K2 : ∀ e' : Int32 × TXv × TBv × Fn × SCv, q = .inr (e') → GW p l e rmX7_load s m args below meth c A D 3 0 0 Q 119 [(1, .int e'.1)] [] [FP h0 h1 h2 h3 h4 h5 h6 h7 h8 h9, TX cy h1 t1 (e'.2.1.1, e'.2.1.2.1, e'.2.1.2.2.1, e'.2.1.2.2.2.1, e'.2.1.2.2.2.2.1, e'.2.1.2.2.2.2.2.1, e'.2.1.2.2.2.2.2.2.1, e'.2.1.2.2.2.2.2.2.2.1, e'.2.1.2.2.2.2.2.2.2.2), TB cy h2 a1 a2 a3 (e'.2.2.1.1, e'.2.2.1.2.1, e'.2.2.1.2.2.1, e'.2.2.1.2.2.2.1, e'.2.2.1.2.2.2.2.1, e'.2.2.1.2.2.2.2.2.1, e'.2.2.1.2.2.2.2.2.2.1, e'.2.2.1.2.2.2.2.2.2.2), SU cy a2 a4 e'.2.2.2.1, SC a3 (e'.2.2.2.2.1, e'.2.2.2.2.2.1, e'.2.2.2.2.2.2.1, e'.2.2.2.2.2.2.2.1, e'.2.2.2.2.2.2.2.2.1, e'.2.2.2.2.2.2.2.2.2), HI h4 r1 vh, SL h5 d1 v7, SL h6 e1 v10]) : GW p l e rmX7_load s m args below meth c A D 3 0 0 Q 80 [(0, .ref h0), (1, .int z.1), (2, .int z.2.1)] [] [FP h0 h1 h2 h3 h4 h5 h6 h7 h8 h9, TX cy h1 t1 z.2.2.1, TB cy h2 a1 a2 a3 z.2.2.2.1, SU cy a2 a4 z.2.2.2.2.1, SC a3 z.2.2.2.2.2, HI h4 r1 vh, SL h5 d1 v7, SL h6 e1 v10] := by
  unfold f_X7_load_B80 at hf
  refine g_iload_n X dX7_load_80 2 rfl rfl ?_
  refine g_bipush X (120 : Int32) dX7_load_81 (by decide) ?_
  refine g_icmp_ge X 119 dX7_load_83 (by decide) (fun c413 => ?_) (fun c413 => ?_)
  · have hf := opos c413 hf
    refine g_sub [1] (lv' := [(1, .int z.1)]) rfl ?_
    exact K2 (z.1, z.2.2.1, z.2.2.2.1, z.2.2.2.2.1, z.2.2.2.2.2) (Option.some.inj hf).symm
  · have hf := oneg c413 hf
    refine g_aload_n X dX7_load_86 0 rfl rfl ?_
    refine g_get X dX7_load_87 ck_X7 0 0 0 rfl rfl (Nat.le_of_ble_eq_true rfl) lkf_X7_10 rfl ?_
    obtain ⟨q408, hq408, hf⟩ := obind hf
    refine g_callV (gs' := [FP h0 h1 h2 h3 h4 h5 h6 h7 h8 h9, TX cy h1 t1 z.2.2.1, TB cy h2 a1 a2 a3 z.2.2.2.1, SU cy a2 a4 z.2.2.2.2.1, SC a3 z.2.2.2.2.2, HI h4 r1 vh, SL h5 d1 v7, SL h6 e1 v10]) (rest := []) X dX7_load_90 (c_X6_hasMore l D cy ad h1 t1 z.2.2.1 hq408) mf_X6_hasMore mv_X6_hasMore lkm_X7_90 ⟨(Nat.le_of_ble_eq_true rfl), (Nat.le_of_ble_eq_true rfl), (Nat.le_of_ble_eq_true rfl), (Nat.le_of_ble_eq_true rfl)⟩ 1 0 rfl rfl rfl rfl [1, 0, 2, 3, 4, 5, 6, 7] _ (by decide : [1, 0, 2, 3, 4, 5, 6, 7].Perm (List.range 8)) rfl (by decide : [1, 0, 2, 3, 4, 5, 6, 7].Perm (List.range 8)) rfl (Nat.le_of_ble_eq_true rfl) rfl ?_
    refine g_if_eq X 119 dX7_load_93 (by decide) (fun c412 => ?_) (fun c412 => ?_)
    · have hf := opos c412 hf
      refine g_sub [1] (lv' := [(1, .int z.1)]) rfl ?_
      exact K2 (z.1, z.2.2.1, z.2.2.2.1, z.2.2.2.2.1, z.2.2.2.2.2) (Option.some.inj hf).symm
    · have hf := oneg c412 hf
      refine g_aload_n X dX7_load_96 0 rfl rfl ?_
      refine g_get X dX7_load_97 ck_X7 0 0 0 rfl rfl (Nat.le_of_ble_eq_true rfl) lkf_X7_10 rfl ?_
      obtain ⟨q409, hq409, hf⟩ := obind hf
      refine g_callV (gs' := [FP h0 h1 h2 h3 h4 h5 h6 h7 h8 h9, TX cy h1 t1 q409, TB cy h2 a1 a2 a3 z.2.2.2.1, SU cy a2 a4 z.2.2.2.2.1, SC a3 z.2.2.2.2.2, HI h4 r1 vh, SL h5 d1 v7, SL h6 e1 v10]) (rest := []) X dX7_load_100 (c_X6_readCommand l D cy ad h1 t1 z.2.2.1 hq409) mf_X6_readCommand mv_X6_readCommand lkm_X7_94 ⟨(Nat.le_of_ble_eq_true rfl), (Nat.le_of_ble_eq_true rfl), (Nat.le_of_ble_eq_true rfl), (Nat.le_of_ble_eq_true rfl)⟩ 1 0 rfl rfl rfl rfl [1, 0, 2, 3, 4, 5, 6, 7] _ (by decide : [1, 0, 2, 3, 4, 5, 6, 7].Perm (List.range 8)) rfl (by decide : [1, 0, 2, 3, 4, 5, 6, 7].Perm (List.range 8)) rfl (Nat.le_of_ble_eq_true rfl) rfl ?_
      refine g_aload_n X dX7_load_103 0 rfl rfl ?_
      obtain ⟨q410, hq410, hf⟩ := obind hf
      refine g_callV (gs' := [FP h0 h1 h2 h3 h4 h5 h6 h7 h8 h9, TX cy h1 t1 q409, TB cy h2 a1 a2 a3 q410.2.1, SU cy a2 a4 q410.2.2.1, SC a3 q410.2.2.2, HI h4 r1 vh, SL h5 d1 v7, SL h6 e1 v10]) (rest := []) X dX7_load_104 (c_X7_obeyText l D cy ad h0 h1 h2 h3 h4 h5 h6 h7 h8 h9 t1 a1 a2 a3 a4 q409 z.2.2.2.1 z.2.2.2.2.1 z.2.2.2.2.2 hq410) mf_X7_obeyText mv_X7_obeyText lkm_X7_126 ⟨(Nat.le_of_ble_eq_true rfl), (Nat.le_of_ble_eq_true rfl), (Nat.le_of_ble_eq_true rfl), (Nat.le_of_ble_eq_true rfl)⟩ 0 0 rfl rfl rfl rfl [0, 1, 2, 3, 4, 5, 6, 7] _ (by decide : [0, 1, 2, 3, 4, 5, 6, 7].Perm (List.range 8)) rfl (by decide : [0, 1, 2, 3, 4, 5, 6, 7].Perm (List.range 8)) rfl (Nat.le_of_ble_eq_true rfl) rfl ?_
      refine g_if_ne X 113 dX7_load_107 (by decide) (fun c411 => ?_) (fun c411 => ?_)
      · have hf := oneg c411 hf
        exact j_X7_load_B80_b113 X hr hne hfl q409 q410.2.1 q410.2.2.1 q410.2.2.2 vh v7 v10 z.1 z.2.1 hf K1 K2
      · have hf := opos c411 hf
        refine g_iinc (lv' := [(0, .ref h0), (1, .int (z.1 + (1 : Int32))), (2, .int z.2.1)]) (v := (1 : Int32)) X dX7_load_110 1 rfl (by decide) [1, 0, 2] (Nat.le_of_ble_eq_true rfl) rfl ?_
        exact j_X7_load_B80_b113 X hr hne hfl q409 q410.2.1 q410.2.2.1 q410.2.2.2 vh v7 v10 (z.1 + (1 : Int32)) z.2.1 hf K1 K2
set_option maxRecDepth 100000 in
set_option maxHeartbeats 4000000 in
theorem w_X7_load_B80 {p : Program} {l : Launch} {e : Env} {s : State} {m : MethodId} {args : Array Value} {below : List Frame} {meth : Method} {c : Code} {A : Nat → Prop} {D : va_G} {cy : Nat → ClassId} {ad : (Nat → Nat) × (Nat → Nat)} {Q : State → Prop} (X : gK p s m args meth c A D cy ad cX7_load 3 RX7) (hr : meth.sig.returnType = (some .int)) (hne : ∀ x ∈ c.exceptionTable.toList, False) (hfl : l.stackTraces = false) {h0 h1 h2 h3 h4 h5 h6 h7 h8 h9 t1 a1 a2 a3 a4 r1 d1 e1 : Nat} (vh : HIv) (v7 : Int32) (v10 : Int32) {n : Nat} {z : Int32 × Int32 × TXv × TBv × Fn × SCv} {q : (Int32 × TXv × TBv × Fn × SCv)} (hf : itl (f_X7_load_B80 vh v7 v10) n z = some q) (K2 : GW p l e rmX7_load s m args below meth c A D 3 0 0 Q 119 [(1, .int q.1)] [] [FP h0 h1 h2 h3 h4 h5 h6 h7 h8 h9, TX cy h1 t1 q.2.1, TB cy h2 a1 a2 a3 q.2.2.1, SU cy a2 a4 q.2.2.2.1, SC a3 q.2.2.2.2, HI h4 r1 vh, SL h5 d1 v7, SL h6 e1 v10]) : GW p l e rmX7_load s m args below meth c A D 3 0 0 Q 80 [(0, .ref h0), (1, .int z.1), (2, .int z.2.1)] [] [FP h0 h1 h2 h3 h4 h5 h6 h7 h8 h9, TX cy h1 t1 z.2.2.1, TB cy h2 a1 a2 a3 z.2.2.2.1, SU cy a2 a4 z.2.2.2.2.1, SC a3 z.2.2.2.2.2, HI h4 r1 vh, SL h5 d1 v7, SL h6 e1 v10] :=
  itl_ind (f := f_X7_load_B80 vh v7 v10) (I := fun z => GW p l e rmX7_load s m args below meth c A D 3 0 0 Q 80 [(0, .ref h0), (1, .int z.1), (2, .int z.2.1)] [] [FP h0 h1 h2 h3 h4 h5 h6 h7 h8 h9, TX cy h1 t1 z.2.2.1, TB cy h2 a1 a2 a3 z.2.2.2.1, SU cy a2 a4 z.2.2.2.2.1, SC a3 z.2.2.2.2.2, HI h4 r1 vh, SL h5 d1 v7, SL h6 e1 v10]) (J := (fun q => GW p l e rmX7_load s m args below meth c A D 3 0 0 Q 119 [(1, .int q.1)] [] [FP h0 h1 h2 h3 h4 h5 h6 h7 h8 h9, TX cy h1 t1 q.2.1, TB cy h2 a1 a2 a3 q.2.2.1, SU cy a2 a4 q.2.2.2.1, SC a3 q.2.2.2.2, HI h4 r1 vh, SL h5 d1 v7, SL h6 e1 v10])) (fun z x h k1 k2 => b_X7_load_B80 X hr hne hfl vh v7 v10 z h (fun s' hs => k1 s' hs) (fun e' he => k2 e' he)) n z q hf K2
def f_X7_load (v0 : TXv) (v1 : TBv) (v2 : Fn) (v3 : SCv) (vh : HIv) (v7 : Int32) (v10 : Int32) : Option ((Int32 × TXv × TBv × Fn × SCv × HIv × Int32 × Int32) ⊕ (Nat × TXv × TBv × Fn × SCv × HIv × Int32 × Int32)) :=
  (f_X7_errorPosition v0).bind (fun q403 => if q403.1 = (-1 : Int32) then (f_X0_clear vh).bind (fun q404 => (f_X4_reset v1 v2).bind (fun q405 => (f_X6_readHead q403.2).bind (fun q406 => (f_X4_layOut q405.1 q405.2 q406.2.2.2.1 q406.2.2.2.2.1).bind (fun q407 => (itl (f_X7_load_B80 q404 (0 : Int32) (0 : Int32)) FU ((0 : Int32), (0 : Int32), q406, q407.1, q407.2, v3)).bind (fun q414 => some (.inl (q414.1, q414.2.1, q414.2.2.1, q414.2.2.2.1, q414.2.2.2.2, q404, (0 : Int32), (0 : Int32)))))))) else some (.inr (2, q403.2, v1, v2, v3, vh, v7, v10)))
set_option maxRecDepth 100000 in
set_option maxHeartbeats 4000000 in
theorem c_X7_load (l : Launch) (D : va_G) (cy : Nat → ClassId) (ad : (Nat → Nat) × (Nat → Nat)) (h0 : Nat) (h1 : Nat) (h2 : Nat) (h3 : Nat) (h4 : Nat) (h5 : Nat) (h6 : Nat) (h7 : Nat) (h8 : Nat) (h9 : Nat) (t1 : Nat) (a1 : Nat) (a2 : Nat) (a3 : Nat) (a4 : Nat) (r1 : Nat) (d1 : Nat) (e1 : Nat) (v0 : TXv) (v1 : TBv) (v2 : Fn) (v3 : SCv) (vh : HIv) (v7 : Int32) (v10 : Int32) (hfl : l.stackTraces = false) {q : (Int32 × TXv × TBv × Fn × SCv × HIv × Int32 × Int32) ⊕ (Nat × TXv × TBv × Fn × SCv × HIv × Int32 × Int32)} (hf : f_X7_load v0 v1 v2 v3 vh v7 v10 = some q) : XM l yX7_load cX7_load 3 (some .int) rmX7_load D cy ad [.ref h0] [FP h0 h1 h2 h3 h4 h5 h6 h7 h8 h9, TX cy h1 t1 v0, TB cy h2 a1 a2 a3 v1, SU cy a2 a4 v2, SC a3 v3, HI h4 r1 vh, SL h5 d1 v7, SL h6 e1 v10] (Sum.elim (fun q => Sum.inl ((some (.int q.1)), [FP h0 h1 h2 h3 h4 h5 h6 h7 h8 h9, TX cy h1 t1 q.2.1, TB cy h2 a1 a2 a3 q.2.2.1, SU cy a2 a4 q.2.2.2.1, SC a3 q.2.2.2.2.1, HI h4 r1 q.2.2.2.2.2.1, SL h5 d1 q.2.2.2.2.2.2.1, SL h6 e1 q.2.2.2.2.2.2.2])) (fun q => Sum.inr (q.1, [FP h0 h1 h2 h3 h4 h5 h6 h7 h8 h9, TX cy h1 t1 q.2.1, TB cy h2 a1 a2 a3 q.2.2.1, SU cy a2 a4 q.2.2.2.1, SC a3 q.2.2.2.2.1, HI h4 r1 q.2.2.2.2.2.1, SL h5 d1 q.2.2.2.2.2.2.1, SL h6 e1 q.2.2.2.2.2.2.2])) q : xRes) := by
  refine xm_of (lv0 := [(0, .ref h0)]) (by decide) (Nat.le_of_ble_eq_true rfl) rfl ?_
  intro p e s m args below meth c A X hr hne
  have X : gK p s m args meth c A D cy ad cX7_load 3 RX7 := X
  unfold f_X7_load at hf
  refine g_aload_n X dX7_load_0 0 rfl rfl ?_
  obtain ⟨q403, hq403, hf⟩ := obind hf
  refine g_callV (gs' := [FP h0 h1 h2 h3 h4 h5 h6 h7 h8 h9, TX cy h1 t1 q403.2, TB cy h2 a1 a2 a3 v1, SU cy a2 a4 v2, SC a3 v3, HI h4 r1 vh, SL h5 d1 v7, SL h6 e1 v10]) (rest := []) X dX7_load_1 (c_X7_errorPosition l D cy ad h0 h1 h2 h3 h4 h5 h6 h7 h8 h9 t1 v0 hq403) mf_X7_errorPosition mv_X7_errorPosition lkm_X7_104 ⟨(Nat.le_of_ble_eq_true rfl), (Nat.le_of_ble_eq_true rfl), (Nat.le_of_ble_eq_true rfl), (Nat.le_of_ble_eq_true rfl)⟩ 0 0 rfl rfl rfl rfl [0, 1, 2, 3, 4, 5, 6, 7] _ (by decide : [0, 1, 2, 3, 4, 5, 6, 7].Perm (List.range 8)) rfl (by decide : [0, 1, 2, 3, 4, 5, 6, 7].Perm (List.range 8)) rfl (Nat.le_of_ble_eq_true rfl) rfl ?_
  refine g_iconst X (-1 : Int32) dX7_load_4 (by decide) ?_
  refine g_icmp_eq X 18 dX7_load_5 (by decide) (fun c415 => ?_) (fun c415 => ?_)
  · have hf := opos c415 hf
    refine g_aload_n X dX7_load_18 0 rfl rfl ?_
    refine g_get X dX7_load_19 ck_X7 0 0 3 rfl rfl (Nat.le_of_ble_eq_true rfl) lkf_X7_29 rfl ?_
    obtain ⟨q404, hq404, hf⟩ := obind hf
    refine g_callV (gs' := [FP h0 h1 h2 h3 h4 h5 h6 h7 h8 h9, TX cy h1 t1 q403.2, TB cy h2 a1 a2 a3 v1, SU cy a2 a4 v2, SC a3 v3, HI h4 r1 q404, SL h5 d1 v7, SL h6 e1 v10]) (rest := []) X dX7_load_22 (c_X0_clear l D cy ad h4 r1 vh hq404) mf_X0_clear mv_X0_clear lkm_X7_110 ⟨(Nat.le_of_ble_eq_true rfl), (Nat.le_of_ble_eq_true rfl), (Nat.le_of_ble_eq_true rfl), (Nat.le_of_ble_eq_true rfl)⟩ 5 0 rfl rfl rfl rfl [5, 0, 1, 2, 3, 4, 6, 7] _ (by decide : [5, 0, 1, 2, 3, 4, 6, 7].Perm (List.range 8)) rfl (by decide : [5, 0, 1, 2, 3, 4, 6, 7].Perm (List.range 8)) rfl (Nat.le_of_ble_eq_true rfl) rfl ?_
    refine g_aload_n X dX7_load_25 0 rfl rfl ?_
    refine g_get X dX7_load_26 ck_X7 0 0 4 rfl rfl (Nat.le_of_ble_eq_true rfl) lkf_X7_36 rfl ?_
    refine g_iconst X (0 : Int32) dX7_load_29 (by decide) ?_
    refine g_put (gs' := [FP h0 h1 h2 h3 h4 h5 h6 h7 h8 h9, TX cy h1 t1 q403.2, TB cy h2 a1 a2 a3 v1, SU cy a2 a4 v2, SC a3 v3, HI h4 r1 q404, SL h5 d1 (0 : Int32), SL h6 e1 v10]) X dX7_load_30 ck_X2 ct_X2 6 0 1 rfl rfl (Nat.le_of_ble_eq_true rfl) lkf_X7_113 rfl rfl rfl (Nat.le_of_ble_eq_true rfl) rfl ?_
    refine g_aload_n X dX7_load_33 0 rfl rfl ?_
    refine g_get X dX7_load_34 ck_X7 0 0 5 rfl rfl (Nat.le_of_ble_eq_true rfl) lkf_X7_40 rfl ?_
    refine g_iconst X (0 : Int32) dX7_load_37 (by decide) ?_
    refine g_put (gs' := [FP h0 h1 h2 h3 h4 h5 h6 h7 h8 h9, TX cy h1 t1 q403.2, TB cy h2 a1 a2 a3 v1, SU cy a2 a4 v2, SC a3 v3, HI h4 r1 q404, SL h5 d1 (0 : Int32), SL h6 e1 (0 : Int32)]) X dX7_load_38 ck_X2 ct_X2 7 0 1 rfl rfl (Nat.le_of_ble_eq_true rfl) lkf_X7_113 rfl rfl rfl (Nat.le_of_ble_eq_true rfl) rfl ?_
    refine g_aload_n X dX7_load_41 0 rfl rfl ?_
    refine g_get X dX7_load_42 ck_X7 0 0 1 rfl rfl (Nat.le_of_ble_eq_true rfl) lkf_X7_19 rfl ?_
    obtain ⟨q405, hq405, hf⟩ := obind hf
    refine g_callV (gs' := [FP h0 h1 h2 h3 h4 h5 h6 h7 h8 h9, TX cy h1 t1 q403.2, TB cy h2 a1 a2 a3 q405.1, SU cy a2 a4 q405.2, SC a3 v3, HI h4 r1 q404, SL h5 d1 (0 : Int32), SL h6 e1 (0 : Int32)]) (rest := []) X dX7_load_45 (c_X4_reset l D cy ad h2 a1 a2 a3 a4 v1 v2 hq405) mf_X4_reset mv_X4_reset lkm_X7_64 ⟨(Nat.le_of_ble_eq_true rfl), (Nat.le_of_ble_eq_true rfl), (Nat.le_of_ble_eq_true rfl), (Nat.le_of_ble_eq_true rfl)⟩ 2 0 rfl rfl rfl rfl [2, 3, 0, 1, 4, 5, 6, 7] _ (by decide : [2, 3, 0, 1, 4, 5, 6, 7].Perm (List.range 8)) rfl (by decide : [2, 3, 0, 1, 4, 5, 6, 7].Perm (List.range 8)) rfl (Nat.le_of_ble_eq_true rfl) rfl ?_
    refine g_aload_n X dX7_load_48 0 rfl rfl ?_
    refine g_get X dX7_load_49 ck_X7 0 0 0 rfl rfl (Nat.le_of_ble_eq_true rfl) lkf_X7_10 rfl ?_
    obtain ⟨q406, hq406, hf⟩ := obind hf
    refine g_callV (gs' := [FP h0 h1 h2 h3 h4 h5 h6 h7 h8 h9, TX cy h1 t1 q406, TB cy h2 a1 a2 a3 q405.1, SU cy a2 a4 q405.2, SC a3 v3, HI h4 r1 q404, SL h5 d1 (0 : Int32), SL h6 e1 (0 : Int32)]) (rest := []) X dX7_load_52 (c_X6_readHead l D cy ad h1 t1 q403.2 hq406) mf_X6_readHead mv_X6_readHead lkm_X7_87 ⟨(Nat.le_of_ble_eq_true rfl), (Nat.le_of_ble_eq_true rfl), (Nat.le_of_ble_eq_true rfl), (Nat.le_of_ble_eq_true rfl)⟩ 1 0 rfl rfl rfl rfl [1, 0, 2, 3, 4, 5, 6, 7] _ (by decide : [1, 0, 2, 3, 4, 5, 6, 7].Perm (List.range 8)) rfl (by decide : [1, 0, 2, 3, 4, 5, 6, 7].Perm (List.range 8)) rfl (Nat.le_of_ble_eq_true rfl) rfl ?_
    refine g_aload_n X dX7_load_55 0 rfl rfl ?_
    refine g_get X dX7_load_56 ck_X7 0 0 1 rfl rfl (Nat.le_of_ble_eq_true rfl) lkf_X7_19 rfl ?_
    refine g_aload_n X dX7_load_59 0 rfl rfl ?_
    refine g_get X dX7_load_60 ck_X7 0 0 0 rfl rfl (Nat.le_of_ble_eq_true rfl) lkf_X7_10 rfl ?_
    refine g_get X dX7_load_63 ck_X6 1 0 4 rfl rfl (Nat.le_of_ble_eq_true rfl) lkf_X7_116 rfl ?_
    refine g_aload_n X dX7_load_66 0 rfl rfl ?_
    refine g_get X dX7_load_67 ck_X7 0 0 0 rfl rfl (Nat.le_of_ble_eq_true rfl) lkf_X7_10 rfl ?_
    refine g_get X dX7_load_70 ck_X6 1 0 5 rfl rfl (Nat.le_of_ble_eq_true rfl) lkf_X7_119 rfl ?_
    obtain ⟨q407, hq407, hf⟩ := obind hf
    refine g_callV (gs' := [FP h0 h1 h2 h3 h4 h5 h6 h7 h8 h9, TX cy h1 t1 q406, TB cy h2 a1 a2 a3 q407.1, SU cy a2 a4 q407.2, SC a3 v3, HI h4 r1 q404, SL h5 d1 (0 : Int32), SL h6 e1 (0 : Int32)]) (rest := []) X dX7_load_73 (c_X4_layOut l D cy ad h2 a1 a2 a3 a4 q405.1 q405.2 q406.2.2.2.1 q406.2.2.2.2.1 hq407) mf_X4_layOut mv_X4_layOut lkm_X7_122 ⟨(Nat.le_of_ble_eq_true rfl), (Nat.le_of_ble_eq_true rfl), (Nat.le_of_ble_eq_true rfl), (Nat.le_of_ble_eq_true rfl)⟩ 2 0 rfl rfl rfl rfl [2, 3, 0, 1, 4, 5, 6, 7] _ (by decide : [2, 3, 0, 1, 4, 5, 6, 7].Perm (List.range 8)) rfl (by decide : [2, 3, 0, 1, 4, 5, 6, 7].Perm (List.range 8)) rfl (Nat.le_of_ble_eq_true rfl) rfl ?_
    refine g_iconst X (0 : Int32) dX7_load_76 (by decide) ?_
    refine g_istore_n (lv' := [(0, .ref h0), (1, .int (0 : Int32))]) X dX7_load_77 [1, 0] rfl (Nat.le_of_ble_eq_true rfl) rfl ?_
    refine g_iconst X (0 : Int32) dX7_load_78 (by decide) ?_
    refine g_istore_n (lv' := [(0, .ref h0), (1, .int (0 : Int32)), (2, .int (0 : Int32))]) X dX7_load_79 [1, 2, 0] rfl (Nat.le_of_ble_eq_true rfl) rfl ?_
    obtain ⟨q414, hq414, hf⟩ := obind hf
    refine w_X7_load_B80 X hr hne hfl q404 (0 : Int32) (0 : Int32) hq414 ?_
    refine g_iload_n X dX7_load_119 0 rfl rfl ?_
    have hf := Option.some.inj hf
    subst hf
    exact g_xret (Nat.le_of_ble_eq_true rfl) (Nat.le_of_ble_eq_true rfl) (g_iret X hr dX7_load_120)
  · have hf := oneg c415 hf
    have hf := Option.some.inj hf
    subst hf
    exact g_throwS X hne hfl 2 7 (by decide) rfl rfl dX7_load_8 dX7_load_11 dX7_load_12 dX7_load_14 dX7_load_17 xw_2 ⟨(Nat.le_of_ble_eq_true rfl), (Nat.le_of_ble_eq_true rfl), (Nat.le_of_ble_eq_true rfl), (Nat.le_of_ble_eq_true rfl)⟩ ⟨(Nat.le_of_ble_eq_true rfl), (Nat.le_of_ble_eq_true rfl)⟩
abbrev rmX7_about : Room := ({ frames := 6, cells := 1, slots := 6, locals := 90 } : Room)
def f_X7_about (v1 : TBv) (v2 : Fn) (p1 : Int32) : Option ((Int32) ⊕ (Nat)) :=
  if p1 = (0 : Int32) then some (.inl v1.1) else if p1 = (1 : Int32) then (f_X4_allCases v1).bind (fun q433 => some (.inl q433)) else if p1 = (2 : Int32) then (f_X3_count v2).bind (fun q432 => some (.inl q432)) else if p1 = (3 : Int32) then some (.inl v1.2.2.2.2.2.2.1) else if p1 = (4 : Int32) then some (.inl v1.2.2.1) else if p1 = (5 : Int32) then some (.inl v1.2.2.2.1) else if p1 = (6 : Int32) then (f_X4_idleWeighings v1).bind (fun q431 => some (.inl q431)) else if p1 = (7 : Int32) then some (.inl v1.2.2.2.2.1) else if p1 = (8 : Int32) then some (.inl v1.2.2.2.2.2.1) else some (.inr 1)
set_option maxRecDepth 100000 in
set_option maxHeartbeats 4000000 in
theorem c_X7_about (l : Launch) (D : va_G) (cy : Nat → ClassId) (ad : (Nat → Nat) × (Nat → Nat)) (h0 : Nat) (h1 : Nat) (h2 : Nat) (h3 : Nat) (h4 : Nat) (h5 : Nat) (h6 : Nat) (h7 : Nat) (h8 : Nat) (h9 : Nat) (a1 : Nat) (a2 : Nat) (a3 : Nat) (a4 : Nat) (v1 : TBv) (v2 : Fn) (p1 : Int32) (hfl : l.stackTraces = false) {q : (Int32) ⊕ (Nat)} (hf : f_X7_about v1 v2 p1 = some q) : XM l yX7_about cX7_about 2 (some .int) rmX7_about D cy ad [.ref h0, .int p1] [FP h0 h1 h2 h3 h4 h5 h6 h7 h8 h9, TB cy h2 a1 a2 a3 v1, SU cy a2 a4 v2] (Sum.elim (fun q => Sum.inl ((some (.int q)), [FP h0 h1 h2 h3 h4 h5 h6 h7 h8 h9, TB cy h2 a1 a2 a3 v1, SU cy a2 a4 v2])) (fun q => Sum.inr (q, [FP h0 h1 h2 h3 h4 h5 h6 h7 h8 h9, TB cy h2 a1 a2 a3 v1, SU cy a2 a4 v2])) q : xRes) := by
  refine xm_of (lv0 := [(0, .ref h0), (1, .int p1)]) (by decide) (Nat.le_of_ble_eq_true rfl) rfl ?_
  intro p e s m args below meth c A X hr hne
  have X : gK p s m args meth c A D cy ad cX7_about 2 RX7 := X
  unfold f_X7_about at hf
  refine g_iload_n X dX7_about_0 1 rfl rfl ?_
  by_cases c422 : p1 = (0 : Int32)
  · have hf := opos c422 hf
    refine g_tableIn (off := 51) X 52 dX7_about_1 (by rw [c422]; decide) (by rw [c422]; decide) (by rw [c422]; decide) (by decide) ?_
    refine g_aload_n X dX7_about_52 0 rfl rfl ?_
    refine g_get X dX7_about_53 ck_X7 0 0 1 rfl rfl (Nat.le_of_ble_eq_true rfl) lkf_X7_19 rfl ?_
    refine g_get X dX7_about_56 ck_X4 1 0 0 rfl rfl (Nat.le_of_ble_eq_true rfl) lkf_X7_145 rfl ?_
    have hf := Option.some.inj hf
    subst hf
    exact g_xret (Nat.le_of_ble_eq_true rfl) (Nat.le_of_ble_eq_true rfl) (g_iret X hr dX7_about_59)
  · have hf := oneg c422 hf
    by_cases c423 : p1 = (1 : Int32)
    · have hf := opos c423 hf
      refine g_tableIn (off := 59) X 60 dX7_about_1 (by rw [c423]; decide) (by rw [c423]; decide) (by rw [c423]; decide) (by decide) ?_
      refine g_aload_n X dX7_about_60 0 rfl rfl ?_
      refine g_get X dX7_about_61 ck_X7 0 0 1 rfl rfl (Nat.le_of_ble_eq_true rfl) lkf_X7_19 rfl ?_
      obtain ⟨q433, hq433, hf⟩ := obind hf
      refine g_callV (gs' := [FP h0 h1 h2 h3 h4 h5 h6 h7 h8 h9, TB cy h2 a1 a2 a3 v1, SU cy a2 a4 v2]) (rest := []) X dX7_about_64 (c_X4_allCases l D cy ad h2 a1 a2 a3 v1 hq433) mf_X4_allCases mv_X4_allCases lkm_X7_146 ⟨(Nat.le_of_ble_eq_true rfl), (Nat.le_of_ble_eq_true rfl), (Nat.le_of_ble_eq_true rfl), (Nat.le_of_ble_eq_true rfl)⟩ 1 0 rfl rfl rfl rfl [1, 0, 2] _ (by decide : [1, 0, 2].Perm (List.range 3)) rfl (by decide : [1, 0, 2].Perm (List.range 3)) rfl (Nat.le_of_ble_eq_true rfl) rfl ?_
      have hf := Option.some.inj hf
      subst hf
      exact g_xret (Nat.le_of_ble_eq_true rfl) (Nat.le_of_ble_eq_true rfl) (g_iret X hr dX7_about_67)
    · have hf := oneg c423 hf
      by_cases c424 : p1 = (2 : Int32)
      · have hf := opos c424 hf
        refine g_tableIn (off := 67) X 68 dX7_about_1 (by rw [c424]; decide) (by rw [c424]; decide) (by rw [c424]; decide) (by decide) ?_
        refine g_aload_n X dX7_about_68 0 rfl rfl ?_
        refine g_get X dX7_about_69 ck_X7 0 0 1 rfl rfl (Nat.le_of_ble_eq_true rfl) lkf_X7_19 rfl ?_
        refine g_get X dX7_about_72 ck_X4 1 0 8 rfl rfl (Nat.le_of_ble_eq_true rfl) lkf_X7_149 rfl ?_
        obtain ⟨q432, hq432, hf⟩ := obind hf
        refine g_callV (gs' := [FP h0 h1 h2 h3 h4 h5 h6 h7 h8 h9, TB cy h2 a1 a2 a3 v1, SU cy a2 a4 v2]) (rest := []) X dX7_about_75 (c_X3_count l D cy ad a2 a4 v2 hq432) mf_X3_count mv_X3_count lkm_X7_153 ⟨(Nat.le_of_ble_eq_true rfl), (Nat.le_of_ble_eq_true rfl), (Nat.le_of_ble_eq_true rfl), (Nat.le_of_ble_eq_true rfl)⟩ 2 0 rfl rfl rfl rfl [2, 0, 1] _ (by decide : [2, 0, 1].Perm (List.range 3)) rfl (by decide : [2, 0, 1].Perm (List.range 3)) rfl (Nat.le_of_ble_eq_true rfl) rfl ?_
        have hf := Option.some.inj hf
        subst hf
        exact g_xret (Nat.le_of_ble_eq_true rfl) (Nat.le_of_ble_eq_true rfl) (g_iret X hr dX7_about_78)
      · have hf := oneg c424 hf
        by_cases c425 : p1 = (3 : Int32)
        · have hf := opos c425 hf
          refine g_tableIn (off := 78) X 79 dX7_about_1 (by rw [c425]; decide) (by rw [c425]; decide) (by rw [c425]; decide) (by decide) ?_
          refine g_aload_n X dX7_about_79 0 rfl rfl ?_
          refine g_get X dX7_about_80 ck_X7 0 0 1 rfl rfl (Nat.le_of_ble_eq_true rfl) lkf_X7_19 rfl ?_
          refine g_get X dX7_about_83 ck_X4 1 0 6 rfl rfl (Nat.le_of_ble_eq_true rfl) lkf_X7_158 rfl ?_
          have hf := Option.some.inj hf
          subst hf
          exact g_xret (Nat.le_of_ble_eq_true rfl) (Nat.le_of_ble_eq_true rfl) (g_iret X hr dX7_about_86)
        · have hf := oneg c425 hf
          by_cases c426 : p1 = (4 : Int32)
          · have hf := opos c426 hf
            refine g_tableIn (off := 86) X 87 dX7_about_1 (by rw [c426]; decide) (by rw [c426]; decide) (by rw [c426]; decide) (by decide) ?_
            refine g_aload_n X dX7_about_87 0 rfl rfl ?_
            refine g_get X dX7_about_88 ck_X7 0 0 1 rfl rfl (Nat.le_of_ble_eq_true rfl) lkf_X7_19 rfl ?_
            refine g_get X dX7_about_91 ck_X4 1 0 2 rfl rfl (Nat.le_of_ble_eq_true rfl) lkf_X7_161 rfl ?_
            have hf := Option.some.inj hf
            subst hf
            exact g_xret (Nat.le_of_ble_eq_true rfl) (Nat.le_of_ble_eq_true rfl) (g_iret X hr dX7_about_94)
          · have hf := oneg c426 hf
            by_cases c427 : p1 = (5 : Int32)
            · have hf := opos c427 hf
              refine g_tableIn (off := 94) X 95 dX7_about_1 (by rw [c427]; decide) (by rw [c427]; decide) (by rw [c427]; decide) (by decide) ?_
              refine g_aload_n X dX7_about_95 0 rfl rfl ?_
              refine g_get X dX7_about_96 ck_X7 0 0 1 rfl rfl (Nat.le_of_ble_eq_true rfl) lkf_X7_19 rfl ?_
              refine g_get X dX7_about_99 ck_X4 1 0 3 rfl rfl (Nat.le_of_ble_eq_true rfl) lkf_X7_164 rfl ?_
              have hf := Option.some.inj hf
              subst hf
              exact g_xret (Nat.le_of_ble_eq_true rfl) (Nat.le_of_ble_eq_true rfl) (g_iret X hr dX7_about_102)
            · have hf := oneg c427 hf
              by_cases c428 : p1 = (6 : Int32)
              · have hf := opos c428 hf
                refine g_tableIn (off := 102) X 103 dX7_about_1 (by rw [c428]; decide) (by rw [c428]; decide) (by rw [c428]; decide) (by decide) ?_
                refine g_aload_n X dX7_about_103 0 rfl rfl ?_
                refine g_get X dX7_about_104 ck_X7 0 0 1 rfl rfl (Nat.le_of_ble_eq_true rfl) lkf_X7_19 rfl ?_
                obtain ⟨q431, hq431, hf⟩ := obind hf
                refine g_callV (gs' := [FP h0 h1 h2 h3 h4 h5 h6 h7 h8 h9, TB cy h2 a1 a2 a3 v1, SU cy a2 a4 v2]) (rest := []) X dX7_about_107 (c_X4_idleWeighings l D cy ad h2 a1 a2 a3 v1 hq431) mf_X4_idleWeighings mv_X4_idleWeighings lkm_X7_167 ⟨(Nat.le_of_ble_eq_true rfl), (Nat.le_of_ble_eq_true rfl), (Nat.le_of_ble_eq_true rfl), (Nat.le_of_ble_eq_true rfl)⟩ 1 0 rfl rfl rfl rfl [1, 0, 2] _ (by decide : [1, 0, 2].Perm (List.range 3)) rfl (by decide : [1, 0, 2].Perm (List.range 3)) rfl (Nat.le_of_ble_eq_true rfl) rfl ?_
                have hf := Option.some.inj hf
                subst hf
                exact g_xret (Nat.le_of_ble_eq_true rfl) (Nat.le_of_ble_eq_true rfl) (g_iret X hr dX7_about_110)
              · have hf := oneg c428 hf
                by_cases c429 : p1 = (7 : Int32)
                · have hf := opos c429 hf
                  refine g_tableIn (off := 110) X 111 dX7_about_1 (by rw [c429]; decide) (by rw [c429]; decide) (by rw [c429]; decide) (by decide) ?_
                  refine g_aload_n X dX7_about_111 0 rfl rfl ?_
                  refine g_get X dX7_about_112 ck_X7 0 0 1 rfl rfl (Nat.le_of_ble_eq_true rfl) lkf_X7_19 rfl ?_
                  refine g_get X dX7_about_115 ck_X4 1 0 4 rfl rfl (Nat.le_of_ble_eq_true rfl) lkf_X7_170 rfl ?_
                  have hf := Option.some.inj hf
                  subst hf
                  exact g_xret (Nat.le_of_ble_eq_true rfl) (Nat.le_of_ble_eq_true rfl) (g_iret X hr dX7_about_118)
                · have hf := oneg c429 hf
                  by_cases c430 : p1 = (8 : Int32)
                  · have hf := opos c430 hf
                    refine g_tableIn (off := 118) X 119 dX7_about_1 (by rw [c430]; decide) (by rw [c430]; decide) (by rw [c430]; decide) (by decide) ?_
                    refine g_aload_n X dX7_about_119 0 rfl rfl ?_
                    refine g_get X dX7_about_120 ck_X7 0 0 1 rfl rfl (Nat.le_of_ble_eq_true rfl) lkf_X7_19 rfl ?_
                    refine g_get X dX7_about_123 ck_X4 1 0 5 rfl rfl (Nat.le_of_ble_eq_true rfl) lkf_X7_173 rfl ?_
                    have hf := Option.some.inj hf
                    subst hf
                    exact g_xret (Nat.le_of_ble_eq_true rfl) (Nat.le_of_ble_eq_true rfl) (g_iret X hr dX7_about_126)
                  · have hf := oneg c430 hf
                    refine g_tableOut X 127 dX7_about_1 (sw_out (fun k9 h91 h92 h93 => ?_)) (by decide) ?_
                    · have := sw_ne (by decide : ((0 : Int32)).toInt = 0) c422
                      have := sw_ne (by decide : ((1 : Int32)).toInt = 1) c423
                      have := sw_ne (by decide : ((2 : Int32)).toInt = 2) c424
                      have := sw_ne (by decide : ((3 : Int32)).toInt = 3) c425
                      have := sw_ne (by decide : ((4 : Int32)).toInt = 4) c426
                      have := sw_ne (by decide : ((5 : Int32)).toInt = 5) c427
                      have := sw_ne (by decide : ((6 : Int32)).toInt = 6) c428
                      have := sw_ne (by decide : ((7 : Int32)).toInt = 7) c429
                      have := sw_ne (by decide : ((8 : Int32)).toInt = 8) c430
                      omega
                    · have hf := Option.some.inj hf
                      subst hf
                      exact g_throwS X hne hfl 1 8 (by decide) rfl rfl dX7_about_127 dX7_about_130 dX7_about_131 dX7_about_133 dX7_about_136 xw_1 ⟨(Nat.le_of_ble_eq_true rfl), (Nat.le_of_ble_eq_true rfl), (Nat.le_of_ble_eq_true rfl), (Nat.le_of_ble_eq_true rfl)⟩ ⟨(Nat.le_of_ble_eq_true rfl), (Nat.le_of_ble_eq_true rfl)⟩
abbrev rmX7_coin : Room := ({ frames := 6, cells := 1, slots := 6, locals := 90 } : Room)
def f_X7_coin (v1 : TBv) (v2 : Fn) (p1 : Int32) : Option ((Int32) ⊕ (Nat)) :=
  (f_X4_hasCoin v1 p1).bind (fun q438 => if (b2i q438) = 0 then some (.inr 3) else (f_X3_coinMayBe v2 p1).bind (fun q439 => some (.inl q439)))
set_option maxRecDepth 100000 in
set_option maxHeartbeats 4000000 in
theorem c_X7_coin (l : Launch) (D : va_G) (cy : Nat → ClassId) (ad : (Nat → Nat) × (Nat → Nat)) (h0 : Nat) (h1 : Nat) (h2 : Nat) (h3 : Nat) (h4 : Nat) (h5 : Nat) (h6 : Nat) (h7 : Nat) (h8 : Nat) (h9 : Nat) (a1 : Nat) (a2 : Nat) (a3 : Nat) (a4 : Nat) (v1 : TBv) (v2 : Fn) (p1 : Int32) (hfl : l.stackTraces = false) {q : (Int32) ⊕ (Nat)} (hf : f_X7_coin v1 v2 p1 = some q) : XM l yX7_coin cX7_coin 2 (some .int) rmX7_coin D cy ad [.ref h0, .int p1] [FP h0 h1 h2 h3 h4 h5 h6 h7 h8 h9, TB cy h2 a1 a2 a3 v1, SU cy a2 a4 v2] (Sum.elim (fun q => Sum.inl ((some (.int q)), [FP h0 h1 h2 h3 h4 h5 h6 h7 h8 h9, TB cy h2 a1 a2 a3 v1, SU cy a2 a4 v2])) (fun q => Sum.inr (q, [FP h0 h1 h2 h3 h4 h5 h6 h7 h8 h9, TB cy h2 a1 a2 a3 v1, SU cy a2 a4 v2])) q : xRes) := by
  refine xm_of (lv0 := [(0, .ref h0), (1, .int p1)]) (by decide) (Nat.le_of_ble_eq_true rfl) rfl ?_
  intro p e s m args below meth c A X hr hne
  have X : gK p s m args meth c A D cy ad cX7_coin 2 RX7 := X
  unfold f_X7_coin at hf
  refine g_aload_n X dX7_coin_0 0 rfl rfl ?_
  refine g_get X dX7_coin_1 ck_X7 0 0 1 rfl rfl (Nat.le_of_ble_eq_true rfl) lkf_X7_19 rfl ?_
  refine g_iload_n X dX7_coin_4 1 rfl rfl ?_
  obtain ⟨q438, hq438, hf⟩ := obind hf
  refine g_callV (gs' := [FP h0 h1 h2 h3 h4 h5 h6 h7 h8 h9, TB cy h2 a1 a2 a3 v1, SU cy a2 a4 v2]) (rest := []) X dX7_coin_5 (c_X4_hasCoin l D cy ad h2 a1 a2 a3 v1 p1 hq438) mf_X4_hasCoin mv_X4_hasCoin lkm_X7_178 ⟨(Nat.le_of_ble_eq_true rfl), (Nat.le_of_ble_eq_true rfl), (Nat.le_of_ble_eq_true rfl), (Nat.le_of_ble_eq_true rfl)⟩ 1 0 rfl rfl rfl rfl [1, 0, 2] _ (by decide : [1, 0, 2].Perm (List.range 3)) rfl (by decide : [1, 0, 2].Perm (List.range 3)) rfl (Nat.le_of_ble_eq_true rfl) rfl ?_
  refine g_if_ne X 21 dX7_coin_8 (by decide) (fun c440 => ?_) (fun c440 => ?_)
  · have hf := oneg c440 hf
    refine g_aload_n X dX7_coin_21 0 rfl rfl ?_
    refine g_get X dX7_coin_22 ck_X7 0 0 1 rfl rfl (Nat.le_of_ble_eq_true rfl) lkf_X7_19 rfl ?_
    refine g_get X dX7_coin_25 ck_X4 1 0 8 rfl rfl (Nat.le_of_ble_eq_true rfl) lkf_X7_149 rfl ?_
    refine g_iload_n X dX7_coin_28 1 rfl rfl ?_
    obtain ⟨q439, hq439, hf⟩ := obind hf
    refine g_callV (gs' := [FP h0 h1 h2 h3 h4 h5 h6 h7 h8 h9, TB cy h2 a1 a2 a3 v1, SU cy a2 a4 v2]) (rest := []) X dX7_coin_29 (c_X3_coinMayBe l D cy ad a2 a4 v2 p1 hq439) mf_X3_coinMayBe mv_X3_coinMayBe lkm_X7_187 ⟨(Nat.le_of_ble_eq_true rfl), (Nat.le_of_ble_eq_true rfl), (Nat.le_of_ble_eq_true rfl), (Nat.le_of_ble_eq_true rfl)⟩ 2 0 rfl rfl rfl rfl [2, 0, 1] _ (by decide : [2, 0, 1].Perm (List.range 3)) rfl (by decide : [2, 0, 1].Perm (List.range 3)) rfl (Nat.le_of_ble_eq_true rfl) rfl ?_
    have hf := Option.some.inj hf
    subst hf
    exact g_xret (Nat.le_of_ble_eq_true rfl) (Nat.le_of_ble_eq_true rfl) (g_iret X hr dX7_coin_32)
  · have hf := opos c440 hf
    have hf := Option.some.inj hf
    subst hf
    exact g_throwS X hne hfl 3 9 (by decide) rfl rfl dX7_coin_11 dX7_coin_14 dX7_coin_15 dX7_coin_17 dX7_coin_20 xw_3 ⟨(Nat.le_of_ble_eq_true rfl), (Nat.le_of_ble_eq_true rfl), (Nat.le_of_ble_eq_true rfl), (Nat.le_of_ble_eq_true rfl)⟩ ⟨(Nat.le_of_ble_eq_true rfl), (Nat.le_of_ble_eq_true rfl)⟩
abbrev rmX7_pans : Room := ({ frames := 1, cells := 0, slots := 0, locals := 22 } : Room)
def f_X7_pans (v1 : TBv) (v2 : Fn) : Option (Int32) :=
  (f_X3_pansMayBe v2).bind (fun q443 => some q443)
set_option maxRecDepth 100000 in
set_option maxHeartbeats 4000000 in
theorem c_X7_pans (l : Launch) (D : va_G) (cy : Nat → ClassId) (ad : (Nat → Nat) × (Nat → Nat)) (h0 : Nat) (h1 : Nat) (h2 : Nat) (h3 : Nat) (h4 : Nat) (h5 : Nat) (h6 : Nat) (h7 : Nat) (h8 : Nat) (h9 : Nat) (a1 : Nat) (a2 : Nat) (a3 : Nat) (a4 : Nat) (v1 : TBv) (v2 : Fn) {q : Int32} (hf : f_X7_pans v1 v2 = some q) : CM l yX7_pans cX7_pans 1 (some .int) rmX7_pans D cy ad [.ref h0] [FP h0 h1 h2 h3 h4 h5 h6 h7 h8 h9, TB cy h2 a1 a2 a3 v1, SU cy a2 a4 v2] (some (.int q)) [FP h0 h1 h2 h3 h4 h5 h6 h7 h8 h9, TB cy h2 a1 a2 a3 v1, SU cy a2 a4 v2] := by
  refine cm_of (lv0 := [(0, .ref h0)]) (by decide) (Nat.le_of_ble_eq_true rfl) rfl ?_
  intro p e s m args below meth c A X hr hn
  have X : gK p s m args meth c A D cy ad cX7_pans 1 RX7 := X
  unfold f_X7_pans at hf
  refine g_aload_n X dX7_pans_0 0 rfl rfl ?_
  refine g_get X dX7_pans_1 ck_X7 0 0 1 rfl rfl (Nat.le_of_ble_eq_true rfl) lkf_X7_19 rfl ?_
  refine g_get X dX7_pans_4 ck_X4 1 0 8 rfl rfl (Nat.le_of_ble_eq_true rfl) lkf_X7_149 rfl ?_
  obtain ⟨q443, hq443, hf⟩ := obind hf
  refine g_callV (gs' := [FP h0 h1 h2 h3 h4 h5 h6 h7 h8 h9, TB cy h2 a1 a2 a3 v1, SU cy a2 a4 v2]) (rest := []) X dX7_pans_7 (c_X3_pansMayBe l D cy ad a2 a4 v2 hq443) mf_X3_pansMayBe mv_X3_pansMayBe lkm_X7_191 ⟨(Nat.le_of_ble_eq_true rfl), (Nat.le_of_ble_eq_true rfl), (Nat.le_of_ble_eq_true rfl), (Nat.le_of_ble_eq_true rfl)⟩ 2 0 rfl rfl rfl rfl [2, 0, 1] _ (by decide : [2, 0, 1].Perm (List.range 3)) rfl (by decide : [2, 0, 1].Perm (List.range 3)) rfl (Nat.le_of_ble_eq_true rfl) rfl ?_
  have hf := Option.some.inj hf
  subst hf
  exact g_iret X hr dX7_pans_10
abbrev rmX7_isLeft : Room := ({ frames := 6, cells := 1, slots := 6, locals := 90 } : Room)
def f_X7_isLeft_b15 (v1 : TBv) (v2 : Fn) : Option ((Int32) ⊕ (Nat)) :=
  some (.inr 3)
set_option maxRecDepth 100000 in
set_option maxHeartbeats 4000000 in
theorem j_X7_isLeft_b15 {p : Program} {l : Launch} {e : Env} {s : State} {m : MethodId} {args : Array Value} {below : List Frame} {meth : Method} {c : Code} {A : Nat → Prop} {D : va_G} {cy : Nat → ClassId} {ad : (Nat → Nat) × (Nat → Nat)} (X : gK p s m args meth c A D cy ad cX7_isLeft 2 RX7) (hr : meth.sig.returnType = (some .int)) (hne : ∀ x ∈ c.exceptionTable.toList, False) (hfl : l.stackTraces = false) {h0 h1 h2 h3 h4 h5 h6 h7 h8 h9 a1 a2 a3 a4 : Nat} (v1 : TBv) (v2 : Fn) {q : (Int32) ⊕ (Nat)} (hf : f_X7_isLeft_b15 v1 v2 = some q) : GW p l e rmX7_isLeft s m args below meth c A D 2 0 0 (vx_MQ below (xmQ D cy A (Sum.elim (fun q => Sum.inl ((some (.int q)), [FP h0 h1 h2 h3 h4 h5 h6 h7 h8 h9, TB cy h2 a1 a2 a3 v1, SU cy a2 a4 v2])) (fun q => Sum.inr (q, [FP h0 h1 h2 h3 h4 h5 h6 h7 h8 h9, TB cy h2 a1 a2 a3 v1, SU cy a2 a4 v2])) q : xRes)) (xmX D cy A (Sum.elim (fun q => Sum.inl ((some (.int q)), [FP h0 h1 h2 h3 h4 h5 h6 h7 h8 h9, TB cy h2 a1 a2 a3 v1, SU cy a2 a4 v2])) (fun q => Sum.inr (q, [FP h0 h1 h2 h3 h4 h5 h6 h7 h8 h9, TB cy h2 a1 a2 a3 v1, SU cy a2 a4 v2])) q : xRes)) args s 1 6 A) 15 [] [] [FP h0 h1 h2 h3 h4 h5 h6 h7 h8 h9, TB cy h2 a1 a2 a3 v1, SU cy a2 a4 v2] := by
  unfold f_X7_isLeft_b15 at hf
  have hf := Option.some.inj hf
  subst hf
  exact g_throwS X hne hfl 3 10 (by decide) rfl rfl dX7_isLeft_15 dX7_isLeft_18 dX7_isLeft_19 dX7_isLeft_21 dX7_isLeft_24 xw_3 ⟨(Nat.le_of_ble_eq_true rfl), (Nat.le_of_ble_eq_true rfl), (Nat.le_of_ble_eq_true rfl), (Nat.le_of_ble_eq_true rfl)⟩ ⟨(Nat.le_of_ble_eq_true rfl), (Nat.le_of_ble_eq_true rfl)⟩
def f_X7_isLeft (v1 : TBv) (v2 : Fn) (p1 : Int32) : Option ((Int32) ⊕ (Nat)) :=
  if p1 < 0 then f_X7_isLeft_b15 v1 v2 else (f_X4_allCases v1).bind (fun q448 => if p1 < q448 then (f_X3_has v2 p1).bind (fun q449 => if (b2i q449) = 0 then some (.inl (0 : Int32)) else some (.inl (1 : Int32))) else f_X7_isLeft_b15 v1 v2)
set_option maxRecDepth 100000 in
set_option maxHeartbeats 4000000 in
theorem c_X7_isLeft (l : Launch) (D : va_G) (cy : Nat → ClassId) (ad : (Nat → Nat) × (Nat → Nat)) (h0 : Nat) (h1 : Nat) (h2 : Nat) (h3 : Nat) (h4 : Nat) (h5 : Nat) (h6 : Nat) (h7 : Nat) (h8 : Nat) (h9 : Nat) (a1 : Nat) (a2 : Nat) (a3 : Nat) (a4 : Nat) (v1 : TBv) (v2 : Fn) (p1 : Int32) (hfl : l.stackTraces = false) {q : (Int32) ⊕ (Nat)} (hf : f_X7_isLeft v1 v2 p1 = some q) : XM l yX7_isLeft cX7_isLeft 2 (some .int) rmX7_isLeft D cy ad [.ref h0, .int p1] [FP h0 h1 h2 h3 h4 h5 h6 h7 h8 h9, TB cy h2 a1 a2 a3 v1, SU cy a2 a4 v2] (Sum.elim (fun q => Sum.inl ((some (.int q)), [FP h0 h1 h2 h3 h4 h5 h6 h7 h8 h9, TB cy h2 a1 a2 a3 v1, SU cy a2 a4 v2])) (fun q => Sum.inr (q, [FP h0 h1 h2 h3 h4 h5 h6 h7 h8 h9, TB cy h2 a1 a2 a3 v1, SU cy a2 a4 v2])) q : xRes) := by
  refine xm_of (lv0 := [(0, .ref h0), (1, .int p1)]) (by decide) (Nat.le_of_ble_eq_true rfl) rfl ?_
  intro p e s m args below meth c A X hr hne
  have X : gK p s m args meth c A D cy ad cX7_isLeft 2 RX7 := X
  unfold f_X7_isLeft at hf
  refine g_iload_n X dX7_isLeft_0 1 rfl rfl ?_
  refine g_if_lt X 15 dX7_isLeft_1 (by decide) (fun c452 => ?_) (fun c452 => ?_)
  · have hf := opos c452 hf
    refine g_sub [] (lv' := []) rfl ?_
    exact j_X7_isLeft_b15 X hr hne hfl v1 v2 hf
  · have hf := oneg c452 hf
    refine g_iload_n X dX7_isLeft_4 1 rfl rfl ?_
    refine g_aload_n X dX7_isLeft_5 0 rfl rfl ?_
    refine g_get X dX7_isLeft_6 ck_X7 0 0 1 rfl rfl (Nat.le_of_ble_eq_true rfl) lkf_X7_19 rfl ?_
    obtain ⟨q448, hq448, hf⟩ := obind hf
    refine g_callV (gs' := [FP h0 h1 h2 h3 h4 h5 h6 h7 h8 h9, TB cy h2 a1 a2 a3 v1, SU cy a2 a4 v2]) (rest := [.int p1]) X dX7_isLeft_9 (c_X4_allCases l D cy ad h2 a1 a2 a3 v1 hq448) mf_X4_allCases mv_X4_allCases lkm_X7_146 ⟨(Nat.le_of_ble_eq_true rfl), (Nat.le_of_ble_eq_true rfl), (Nat.le_of_ble_eq_true rfl), (Nat.le_of_ble_eq_true rfl)⟩ 1 0 rfl rfl rfl rfl [1, 0, 2] _ (by decide : [1, 0, 2].Perm (List.range 3)) rfl (by decide : [1, 0, 2].Perm (List.range 3)) rfl (Nat.le_of_ble_eq_true rfl) rfl ?_
    refine g_icmp_lt X 25 dX7_isLeft_12 (by decide) (fun c451 => ?_) (fun c451 => ?_)
    · have hf := opos c451 hf
      refine g_aload_n X dX7_isLeft_25 0 rfl rfl ?_
      refine g_get X dX7_isLeft_26 ck_X7 0 0 1 rfl rfl (Nat.le_of_ble_eq_true rfl) lkf_X7_19 rfl ?_
      refine g_get X dX7_isLeft_29 ck_X4 1 0 8 rfl rfl (Nat.le_of_ble_eq_true rfl) lkf_X7_149 rfl ?_
      refine g_iload_n X dX7_isLeft_32 1 rfl rfl ?_
      obtain ⟨q449, hq449, hf⟩ := obind hf
      refine g_callV (gs' := [FP h0 h1 h2 h3 h4 h5 h6 h7 h8 h9, TB cy h2 a1 a2 a3 v1, SU cy a2 a4 v2]) (rest := []) X dX7_isLeft_33 (c_X3_has l D cy ad a2 a4 v2 p1 hq449) mf_X3_has mv_X3_has lkm_X7_196 ⟨(Nat.le_of_ble_eq_true rfl), (Nat.le_of_ble_eq_true rfl), (Nat.le_of_ble_eq_true rfl), (Nat.le_of_ble_eq_true rfl)⟩ 2 0 rfl rfl rfl rfl [2, 0, 1] _ (by decide : [2, 0, 1].Perm (List.range 3)) rfl (by decide : [2, 0, 1].Perm (List.range 3)) rfl (Nat.le_of_ble_eq_true rfl) rfl ?_
      refine g_if_eq X 43 dX7_isLeft_36 (by decide) (fun c450 => ?_) (fun c450 => ?_)
      · have hf := opos c450 hf
        refine g_iconst X (0 : Int32) dX7_isLeft_43 (by decide) ?_
        have hf := Option.some.inj hf
        subst hf
        exact g_xret (Nat.le_of_ble_eq_true rfl) (Nat.le_of_ble_eq_true rfl) (g_iret X hr dX7_isLeft_44)
      · have hf := oneg c450 hf
        refine g_iconst X (1 : Int32) dX7_isLeft_39 (by decide) ?_
        refine g_goto X 44 dX7_isLeft_40 (by decide) ?_
        have hf := Option.some.inj hf
        subst hf
        exact g_xret (Nat.le_of_ble_eq_true rfl) (Nat.le_of_ble_eq_true rfl) (g_iret X hr dX7_isLeft_44)
    · have hf := oneg c451 hf
      refine g_sub [] (lv' := []) rfl ?_
      exact j_X7_isLeft_b15 X hr hne hfl v1 v2 hf
abbrev rmX7_weighing : Room := ({ frames := 6, cells := 1, slots := 6, locals := 90 } : Room)
def f_X7_weighing_b15 (v1 : TBv) : Option ((Int32) ⊕ (Nat)) :=
  some (.inr 3)
set_option maxRecDepth 100000 in
set_option maxHeartbeats 4000000 in
theorem j_X7_weighing_b15 {p : Program} {l : Launch} {e : Env} {s : State} {m : MethodId} {args : Array Value} {below : List Frame} {meth : Method} {c : Code} {A : Nat → Prop} {D : va_G} {cy : Nat → ClassId} {ad : (Nat → Nat) × (Nat → Nat)} (X : gK p s m args meth c A D cy ad cX7_weighing 3 RX7) (hr : meth.sig.returnType = (some .int)) (hne : ∀ x ∈ c.exceptionTable.toList, False) (hfl : l.stackTraces = false) {h0 h1 h2 h3 h4 h5 h6 h7 h8 h9 a1 a2 a3 : Nat} (v1 : TBv) {q : (Int32) ⊕ (Nat)} (hf : f_X7_weighing_b15 v1 = some q) : GW p l e rmX7_weighing s m args below meth c A D 3 0 0 (vx_MQ below (xmQ D cy A (Sum.elim (fun q => Sum.inl ((some (.int q)), [FP h0 h1 h2 h3 h4 h5 h6 h7 h8 h9, TB cy h2 a1 a2 a3 v1])) (fun q => Sum.inr (q, [FP h0 h1 h2 h3 h4 h5 h6 h7 h8 h9, TB cy h2 a1 a2 a3 v1])) q : xRes)) (xmX D cy A (Sum.elim (fun q => Sum.inl ((some (.int q)), [FP h0 h1 h2 h3 h4 h5 h6 h7 h8 h9, TB cy h2 a1 a2 a3 v1])) (fun q => Sum.inr (q, [FP h0 h1 h2 h3 h4 h5 h6 h7 h8 h9, TB cy h2 a1 a2 a3 v1])) q : xRes)) args s 1 6 A) 15 [] [] [FP h0 h1 h2 h3 h4 h5 h6 h7 h8 h9, TB cy h2 a1 a2 a3 v1] := by
  unfold f_X7_weighing_b15 at hf
  have hf := Option.some.inj hf
  subst hf
  exact g_throwS X hne hfl 3 11 (by decide) rfl rfl dX7_weighing_15 dX7_weighing_18 dX7_weighing_19 dX7_weighing_21 dX7_weighing_24 xw_3 ⟨(Nat.le_of_ble_eq_true rfl), (Nat.le_of_ble_eq_true rfl), (Nat.le_of_ble_eq_true rfl), (Nat.le_of_ble_eq_true rfl)⟩ ⟨(Nat.le_of_ble_eq_true rfl), (Nat.le_of_ble_eq_true rfl)⟩
def f_X7_weighing_b35 (v1 : TBv) : Option ((Int32) ⊕ (Nat)) :=
  some (.inr 1)
set_option maxRecDepth 100000 in
set_option maxHeartbeats 4000000 in
theorem j_X7_weighing_b35 {p : Program} {l : Launch} {e : Env} {s : State} {m : MethodId} {args : Array Value} {below : List Frame} {meth : Method} {c : Code} {A : Nat → Prop} {D : va_G} {cy : Nat → ClassId} {ad : (Nat → Nat) × (Nat → Nat)} (X : gK p s m args meth c A D cy ad cX7_weighing 3 RX7) (hr : meth.sig.returnType = (some .int)) (hne : ∀ x ∈ c.exceptionTable.toList, False) (hfl : l.stackTraces = false) {h0 h1 h2 h3 h4 h5 h6 h7 h8 h9 a1 a2 a3 : Nat} (v1 : TBv) {q : (Int32) ⊕ (Nat)} (hf : f_X7_weighing_b35 v1 = some q) : GW p l e rmX7_weighing s m args below meth c A D 3 0 0 (vx_MQ below (xmQ D cy A (Sum.elim (fun q => Sum.inl ((some (.int q)), [FP h0 h1 h2 h3 h4 h5 h6 h7 h8 h9, TB cy h2 a1 a2 a3 v1])) (fun q => Sum.inr (q, [FP h0 h1 h2 h3 h4 h5 h6 h7 h8 h9, TB cy h2 a1 a2 a3 v1])) q : xRes)) (xmX D cy A (Sum.elim (fun q => Sum.inl ((some (.int q)), [FP h0 h1 h2 h3 h4 h5 h6 h7 h8 h9, TB cy h2 a1 a2 a3 v1])) (fun q => Sum.inr (q, [FP h0 h1 h2 h3 h4 h5 h6 h7 h8 h9, TB cy h2 a1 a2 a3 v1])) q : xRes)) args s 1 6 A) 35 [] [] [FP h0 h1 h2 h3 h4 h5 h6 h7 h8 h9, TB cy h2 a1 a2 a3 v1] := by
  unfold f_X7_weighing_b35 at hf
  have hf := Option.some.inj hf
  subst hf
  exact g_throwS X hne hfl 1 12 (by decide) rfl rfl dX7_weighing_35 dX7_weighing_38 dX7_weighing_39 dX7_weighing_41 dX7_weighing_44 xw_1 ⟨(Nat.le_of_ble_eq_true rfl), (Nat.le_of_ble_eq_true rfl), (Nat.le_of_ble_eq_true rfl), (Nat.le_of_ble_eq_true rfl)⟩ ⟨(Nat.le_of_ble_eq_true rfl), (Nat.le_of_ble_eq_true rfl)⟩
def f_X7_weighing (v1 : TBv) (p1 : Int32) (p2 : Int32) : Option ((Int32) ⊕ (Nat)) :=
  if p1 < 0 then f_X7_weighing_b15 v1 else if p1 < v1.2.2.2.2.2.2.1 then if p2 < 0 then f_X7_weighing_b35 v1 else if p2 < (6 : Int32) then (f_X4_kept v1 p1 p2).bind (fun q455 => some (.inl q455)) else f_X7_weighing_b35 v1 else f_X7_weighing_b15 v1
set_option maxRecDepth 100000 in
set_option maxHeartbeats 4000000 in
theorem c_X7_weighing (l : Launch) (D : va_G) (cy : Nat → ClassId) (ad : (Nat → Nat) × (Nat → Nat)) (h0 : Nat) (h1 : Nat) (h2 : Nat) (h3 : Nat) (h4 : Nat) (h5 : Nat) (h6 : Nat) (h7 : Nat) (h8 : Nat) (h9 : Nat) (a1 : Nat) (a2 : Nat) (a3 : Nat) (v1 : TBv) (p1 : Int32) (p2 : Int32) (hfl : l.stackTraces = false) {q : (Int32) ⊕ (Nat)} (hf : f_X7_weighing v1 p1 p2 = some q) : XM l yX7_weighing cX7_weighing 3 (some .int) rmX7_weighing D cy ad [.ref h0, .int p1, .int p2] [FP h0 h1 h2 h3 h4 h5 h6 h7 h8 h9, TB cy h2 a1 a2 a3 v1] (Sum.elim (fun q => Sum.inl ((some (.int q)), [FP h0 h1 h2 h3 h4 h5 h6 h7 h8 h9, TB cy h2 a1 a2 a3 v1])) (fun q => Sum.inr (q, [FP h0 h1 h2 h3 h4 h5 h6 h7 h8 h9, TB cy h2 a1 a2 a3 v1])) q : xRes) := by
  refine xm_of (lv0 := [(0, .ref h0), (1, .int p1), (2, .int p2)]) (by decide) (Nat.le_of_ble_eq_true rfl) rfl ?_
  intro p e s m args below meth c A X hr hne
  have X : gK p s m args meth c A D cy ad cX7_weighing 3 RX7 := X
  unfold f_X7_weighing at hf
  refine g_iload_n X dX7_weighing_0 1 rfl rfl ?_
  refine g_if_lt X 15 dX7_weighing_1 (by decide) (fun c459 => ?_) (fun c459 => ?_)
  · have hf := opos c459 hf
    refine g_sub [] (lv' := []) rfl ?_
    exact j_X7_weighing_b15 X hr hne hfl v1 hf
  · have hf := oneg c459 hf
    refine g_iload_n X dX7_weighing_4 1 rfl rfl ?_
    refine g_aload_n X dX7_weighing_5 0 rfl rfl ?_
    refine g_get X dX7_weighing_6 ck_X7 0 0 1 rfl rfl (Nat.le_of_ble_eq_true rfl) lkf_X7_19 rfl ?_
    refine g_get X dX7_weighing_9 ck_X4 1 0 6 rfl rfl (Nat.le_of_ble_eq_true rfl) lkf_X7_158 rfl ?_
    refine g_icmp_lt X 25 dX7_weighing_12 (by decide) (fun c458 => ?_) (fun c458 => ?_)
    · have hf := opos c458 hf
      refine g_iload_n X dX7_weighing_25 2 rfl rfl ?_
      refine g_if_lt X 35 dX7_weighing_26 (by decide) (fun c457 => ?_) (fun c457 => ?_)
      · have hf := opos c457 hf
        refine g_sub [] (lv' := []) rfl ?_
        exact j_X7_weighing_b35 X hr hne hfl v1 hf
      · have hf := oneg c457 hf
        refine g_iload_n X dX7_weighing_29 2 rfl rfl ?_
        refine g_bipush X (6 : Int32) dX7_weighing_30 (by decide) ?_
        refine g_icmp_lt X 45 dX7_weighing_32 (by decide) (fun c456 => ?_) (fun c456 => ?_)
        · have hf := opos c456 hf
          refine g_aload_n X dX7_weighing_45 0 rfl rfl ?_
          refine g_get X dX7_weighing_46 ck_X7 0 0 1 rfl rfl (Nat.le_of_ble_eq_true rfl) lkf_X7_19 rfl ?_
          refine g_iload_n X dX7_weighing_49 1 rfl rfl ?_
          refine g_iload_n X dX7_weighing_50 2 rfl rfl ?_
          obtain ⟨q455, hq455, hf⟩ := obind hf
          refine g_callV (gs' := [FP h0 h1 h2 h3 h4 h5 h6 h7 h8 h9, TB cy h2 a1 a2 a3 v1]) (rest := []) X dX7_weighing_51 (c_X4_kept l D cy ad h2 a1 a2 a3 v1 p1 p2 hq455) mf_X4_kept mv_X4_kept lkm_X7_203 ⟨(Nat.le_of_ble_eq_true rfl), (Nat.le_of_ble_eq_true rfl), (Nat.le_of_ble_eq_true rfl), (Nat.le_of_ble_eq_true rfl)⟩ 1 0 rfl rfl rfl rfl [1, 0] _ (by decide : [1, 0].Perm (List.range 2)) rfl (by decide : [1, 0].Perm (List.range 2)) rfl (Nat.le_of_ble_eq_true rfl) rfl ?_
          have hf := Option.some.inj hf
          subst hf
          exact g_xret (Nat.le_of_ble_eq_true rfl) (Nat.le_of_ble_eq_true rfl) (g_iret X hr dX7_weighing_54)
        · have hf := oneg c456 hf
          refine g_sub [] (lv' := []) rfl ?_
          exact j_X7_weighing_b35 X hr hne hfl v1 hf
    · have hf := oneg c458 hf
      refine g_sub [] (lv' := []) rfl ?_
      exact j_X7_weighing_b15 X hr hne hfl v1 hf
abbrev rmX7_hide : Room := ({ frames := 6, cells := 1, slots := 6, locals := 90 } : Room)
def f_X7_hide_b11 (v1 : TBv) (v2 : Fn) (vh : HIv) (vr : HRv) : Option ((Int32 × TBv × Fn × HIv × HRv) ⊕ (Nat × TBv × Fn × HIv × HRv)) :=
  some (.inr (1, v1, v2, vh, vr))
set_option maxRecDepth 100000 in
set_option maxHeartbeats 4000000 in
theorem j_X7_hide_b11 {p : Program} {l : Launch} {e : Env} {s : State} {m : MethodId} {args : Array Value} {below : List Frame} {meth : Method} {c : Code} {A : Nat → Prop} {D : va_G} {cy : Nat → ClassId} {ad : (Nat → Nat) × (Nat → Nat)} (X : gK p s m args meth c A D cy ad cX7_hide 3 RX7) (hr : meth.sig.returnType = (some .int)) (hne : ∀ x ∈ c.exceptionTable.toList, False) (hfl : l.stackTraces = false) {h0 h1 h2 h3 h4 h5 h6 h7 h8 h9 a1 a2 a3 a4 r1 : Nat} {ta : TAd} (v1 : TBv) (v2 : Fn) (vh : HIv) (vr : HRv) {q : (Int32 × TBv × Fn × HIv × HRv) ⊕ (Nat × TBv × Fn × HIv × HRv)} (hf : f_X7_hide_b11 v1 v2 vh vr = some q) : GW p l e rmX7_hide s m args below meth c A D 3 0 0 (vx_MQ below (xmQ D cy A (Sum.elim (fun q => Sum.inl ((some (.int q.1)), [FP h0 h1 h2 h3 h4 h5 h6 h7 h8 h9, TB cy h2 a1 a2 a3 q.2.1, SU cy a2 a4 q.2.2.1, HI h4 r1 q.2.2.2.1, HR cy r1 ta q.2.2.2.2])) (fun q => Sum.inr (q.1, [FP h0 h1 h2 h3 h4 h5 h6 h7 h8 h9, TB cy h2 a1 a2 a3 q.2.1, SU cy a2 a4 q.2.2.1, HI h4 r1 q.2.2.2.1, HR cy r1 ta q.2.2.2.2])) q : xRes)) (xmX D cy A (Sum.elim (fun q => Sum.inl ((some (.int q.1)), [FP h0 h1 h2 h3 h4 h5 h6 h7 h8 h9, TB cy h2 a1 a2 a3 q.2.1, SU cy a2 a4 q.2.2.1, HI h4 r1 q.2.2.2.1, HR cy r1 ta q.2.2.2.2])) (fun q => Sum.inr (q.1, [FP h0 h1 h2 h3 h4 h5 h6 h7 h8 h9, TB cy h2 a1 a2 a3 q.2.1, SU cy a2 a4 q.2.2.1, HI h4 r1 q.2.2.2.1, HR cy r1 ta q.2.2.2.2])) q : xRes)) args s 1 6 A) 11 [] [] [FP h0 h1 h2 h3 h4 h5 h6 h7 h8 h9, TB cy h2 a1 a2 a3 v1, SU cy a2 a4 v2, HI h4 r1 vh, HR cy r1 ta vr] := by
  unfold f_X7_hide_b11 at hf
  have hf := Option.some.inj hf
  subst hf
  exact g_throwS X hne hfl 1 13 (by decide) rfl rfl dX7_hide_11 dX7_hide_14 dX7_hide_15 dX7_hide_17 dX7_hide_20 xw_1 ⟨(Nat.le_of_ble_eq_true rfl), (Nat.le_of_ble_eq_true rfl), (Nat.le_of_ble_eq_true rfl), (Nat.le_of_ble_eq_true rfl)⟩ ⟨(Nat.le_of_ble_eq_true rfl), (Nat.le_of_ble_eq_true rfl)⟩
def f_X7_hide_b33 (v1 : TBv) (v2 : Fn) (vh : HIv) (vr : HRv) : Option ((Int32 × TBv × Fn × HIv × HRv) ⊕ (Nat × TBv × Fn × HIv × HRv)) :=
  some (.inr (3, v1, v2, vh, vr))
set_option maxRecDepth 100000 in
set_option maxHeartbeats 4000000 in
theorem j_X7_hide_b33 {p : Program} {l : Launch} {e : Env} {s : State} {m : MethodId} {args : Array Value} {below : List Frame} {meth : Method} {c : Code} {A : Nat → Prop} {D : va_G} {cy : Nat → ClassId} {ad : (Nat → Nat) × (Nat → Nat)} (X : gK p s m args meth c A D cy ad cX7_hide 3 RX7) (hr : meth.sig.returnType = (some .int)) (hne : ∀ x ∈ c.exceptionTable.toList, False) (hfl : l.stackTraces = false) {h0 h1 h2 h3 h4 h5 h6 h7 h8 h9 a1 a2 a3 a4 r1 : Nat} {ta : TAd} (v1 : TBv) (v2 : Fn) (vh : HIv) (vr : HRv) {q : (Int32 × TBv × Fn × HIv × HRv) ⊕ (Nat × TBv × Fn × HIv × HRv)} (hf : f_X7_hide_b33 v1 v2 vh vr = some q) : GW p l e rmX7_hide s m args below meth c A D 3 0 0 (vx_MQ below (xmQ D cy A (Sum.elim (fun q => Sum.inl ((some (.int q.1)), [FP h0 h1 h2 h3 h4 h5 h6 h7 h8 h9, TB cy h2 a1 a2 a3 q.2.1, SU cy a2 a4 q.2.2.1, HI h4 r1 q.2.2.2.1, HR cy r1 ta q.2.2.2.2])) (fun q => Sum.inr (q.1, [FP h0 h1 h2 h3 h4 h5 h6 h7 h8 h9, TB cy h2 a1 a2 a3 q.2.1, SU cy a2 a4 q.2.2.1, HI h4 r1 q.2.2.2.1, HR cy r1 ta q.2.2.2.2])) q : xRes)) (xmX D cy A (Sum.elim (fun q => Sum.inl ((some (.int q.1)), [FP h0 h1 h2 h3 h4 h5 h6 h7 h8 h9, TB cy h2 a1 a2 a3 q.2.1, SU cy a2 a4 q.2.2.1, HI h4 r1 q.2.2.2.1, HR cy r1 ta q.2.2.2.2])) (fun q => Sum.inr (q.1, [FP h0 h1 h2 h3 h4 h5 h6 h7 h8 h9, TB cy h2 a1 a2 a3 q.2.1, SU cy a2 a4 q.2.2.1, HI h4 r1 q.2.2.2.1, HR cy r1 ta q.2.2.2.2])) q : xRes)) args s 1 6 A) 33 [] [] [FP h0 h1 h2 h3 h4 h5 h6 h7 h8 h9, TB cy h2 a1 a2 a3 v1, SU cy a2 a4 v2, HI h4 r1 vh, HR cy r1 ta vr] := by
  unfold f_X7_hide_b33 at hf
  have hf := Option.some.inj hf
  subst hf
  exact g_throwS X hne hfl 3 10 (by decide) rfl rfl dX7_hide_33 dX7_hide_36 dX7_hide_37 dX7_hide_39 dX7_hide_42 xw_3 ⟨(Nat.le_of_ble_eq_true rfl), (Nat.le_of_ble_eq_true rfl), (Nat.le_of_ble_eq_true rfl), (Nat.le_of_ble_eq_true rfl)⟩ ⟨(Nat.le_of_ble_eq_true rfl), (Nat.le_of_ble_eq_true rfl)⟩
def f_X7_hide (v1 : TBv) (v2 : Fn) (vh : HIv) (vr : HRv) (p1 : Int32) (p2 : Int32) : Option ((Int32 × TBv × Fn × HIv × HRv) ⊕ (Nat × TBv × Fn × HIv × HRv)) :=
  if p1 < (3 : Int32) then f_X7_hide_b11 v1 v2 vh vr else if p1 ≤ (12 : Int32) then if p2 < 0 then f_X7_hide_b33 v1 v2 vh vr else (f_X7_casesOf p1).bind (fun q468 => if p2 < q468 then (f_X0_remember vh vr v1 v2).bind (fun q469 => (f_X4_layOut v1 v2 p1 p2).bind (fun q470 => (f_X4_allCases q470.1).bind (fun q471 => some (.inl (q471, q470.1, q470.2, q469.1, q469.2))))) else f_X7_hide_b33 v1 v2 vh vr) else f_X7_hide_b11 v1 v2 vh vr
set_option maxRecDepth 100000 in
set_option maxHeartbeats 4000000 in
theorem c_X7_hide (l : Launch) (D : va_G) (cy : Nat → ClassId) (ad : (Nat → Nat) × (Nat → Nat)) (h0 : Nat) (h1 : Nat) (h2 : Nat) (h3 : Nat) (h4 : Nat) (h5 : Nat) (h6 : Nat) (h7 : Nat) (h8 : Nat) (h9 : Nat) (a1 : Nat) (a2 : Nat) (a3 : Nat) (a4 : Nat) (r1 : Nat) (ta : TAd) (v1 : TBv) (v2 : Fn) (vh : HIv) (vr : HRv) (p1 : Int32) (p2 : Int32) (hfl : l.stackTraces = false) {q : (Int32 × TBv × Fn × HIv × HRv) ⊕ (Nat × TBv × Fn × HIv × HRv)} (hf : f_X7_hide v1 v2 vh vr p1 p2 = some q) : XM l yX7_hide cX7_hide 3 (some .int) rmX7_hide D cy ad [.ref h0, .int p1, .int p2] [FP h0 h1 h2 h3 h4 h5 h6 h7 h8 h9, TB cy h2 a1 a2 a3 v1, SU cy a2 a4 v2, HI h4 r1 vh, HR cy r1 ta vr] (Sum.elim (fun q => Sum.inl ((some (.int q.1)), [FP h0 h1 h2 h3 h4 h5 h6 h7 h8 h9, TB cy h2 a1 a2 a3 q.2.1, SU cy a2 a4 q.2.2.1, HI h4 r1 q.2.2.2.1, HR cy r1 ta q.2.2.2.2])) (fun q => Sum.inr (q.1, [FP h0 h1 h2 h3 h4 h5 h6 h7 h8 h9, TB cy h2 a1 a2 a3 q.2.1, SU cy a2 a4 q.2.2.1, HI h4 r1 q.2.2.2.1, HR cy r1 ta q.2.2.2.2])) q : xRes) := by
  refine xm_of (lv0 := [(0, .ref h0), (1, .int p1), (2, .int p2)]) (by decide) (Nat.le_of_ble_eq_true rfl) rfl ?_
  intro p e s m args below meth c A X hr hne
  have X : gK p s m args meth c A D cy ad cX7_hide 3 RX7 := X
  unfold f_X7_hide at hf
  refine g_iload_n X dX7_hide_0 1 rfl rfl ?_
  refine g_iconst X (3 : Int32) dX7_hide_1 (by decide) ?_
  refine g_icmp_lt X 11 dX7_hide_2 (by decide) (fun c475 => ?_) (fun c475 => ?_)
  · have hf := opos c475 hf
    refine g_sub [] (lv' := []) rfl ?_
    exact j_X7_hide_b11 X hr hne hfl v1 v2 vh vr hf
  · have hf := oneg c475 hf
    refine g_iload_n X dX7_hide_5 1 rfl rfl ?_
    refine g_bipush X (12 : Int32) dX7_hide_6 (by decide) ?_
    refine g_icmp_le X 21 dX7_hide_8 (by decide) (fun c474 => ?_) (fun c474 => ?_)
    · have hf := opos c474 hf
      refine g_iload_n X dX7_hide_21 2 rfl rfl ?_
      refine g_if_lt X 33 dX7_hide_22 (by decide) (fun c473 => ?_) (fun c473 => ?_)
      · have hf := opos c473 hf
        refine g_sub [] (lv' := []) rfl ?_
        exact j_X7_hide_b33 X hr hne hfl v1 v2 vh vr hf
      · have hf := oneg c473 hf
        refine g_iload_n X dX7_hide_25 2 rfl rfl ?_
        refine g_iload_n X dX7_hide_26 1 rfl rfl ?_
        obtain ⟨q468, hq468, hf⟩ := obind hf
        refine g_callS (gs' := [FP h0 h1 h2 h3 h4 h5 h6 h7 h8 h9, TB cy h2 a1 a2 a3 v1, SU cy a2 a4 v2, HI h4 r1 vh, HR cy r1 ta vr]) (rest := [.int p2]) X dX7_hide_27 (c_X7_casesOf l D cy ad p1 hq468) mf_X7_casesOf ms_X7_casesOf lkm_X7_209 ⟨(Nat.le_of_ble_eq_true rfl), (Nat.le_of_ble_eq_true rfl), (Nat.le_of_ble_eq_true rfl), (Nat.le_of_ble_eq_true rfl)⟩ [0, 1, 2, 3, 4] _ (by decide : [0, 1, 2, 3, 4].Perm (List.range 5)) rfl (by decide : [0, 1, 2, 3, 4].Perm (List.range 5)) rfl (Nat.le_of_ble_eq_true rfl) rfl ?_
        refine g_icmp_lt X 43 dX7_hide_30 (by decide) (fun c472 => ?_) (fun c472 => ?_)
        · have hf := opos c472 hf
          refine g_aload_n X dX7_hide_43 0 rfl rfl ?_
          refine g_get X dX7_hide_44 ck_X7 0 0 3 rfl rfl (Nat.le_of_ble_eq_true rfl) lkf_X7_29 rfl ?_
          refine g_aload_n X dX7_hide_47 0 rfl rfl ?_
          refine g_get X dX7_hide_48 ck_X7 0 0 1 rfl rfl (Nat.le_of_ble_eq_true rfl) lkf_X7_19 rfl ?_
          obtain ⟨q469, hq469, hf⟩ := obind hf
          refine g_callV (gs' := [FP h0 h1 h2 h3 h4 h5 h6 h7 h8 h9, TB cy h2 a1 a2 a3 v1, SU cy a2 a4 v2, HI h4 r1 q469.1, HR cy r1 ta q469.2]) (rest := []) X dX7_hide_51 (c_X0_remember l D cy ad h4 r1 ta h2 a1 a2 a3 a4 vh vr v1 v2 hq469) mf_X0_remember mv_X0_remember lkm_X7_212 ⟨(Nat.le_of_ble_eq_true rfl), (Nat.le_of_ble_eq_true rfl), (Nat.le_of_ble_eq_true rfl), (Nat.le_of_ble_eq_true rfl)⟩ 3 0 rfl rfl rfl rfl [3, 4, 1, 2, 0] _ (by decide : [3, 4, 1, 2, 0].Perm (List.range 5)) rfl (by decide : [3, 4, 1, 2, 0].Perm (List.range 5)) rfl (Nat.le_of_ble_eq_true rfl) rfl ?_
          refine g_aload_n X dX7_hide_54 0 rfl rfl ?_
          refine g_get X dX7_hide_55 ck_X7 0 0 1 rfl rfl (Nat.le_of_ble_eq_true rfl) lkf_X7_19 rfl ?_
          refine g_iload_n X dX7_hide_58 1 rfl rfl ?_
          refine g_iload_n X dX7_hide_59 2 rfl rfl ?_
          obtain ⟨q470, hq470, hf⟩ := obind hf
          refine g_callV (gs' := [FP h0 h1 h2 h3 h4 h5 h6 h7 h8 h9, TB cy h2 a1 a2 a3 q470.1, SU cy a2 a4 q470.2, HI h4 r1 q469.1, HR cy r1 ta q469.2]) (rest := []) X dX7_hide_60 (c_X4_layOut l D cy ad h2 a1 a2 a3 a4 v1 v2 p1 p2 hq470) mf_X4_layOut mv_X4_layOut lkm_X7_122 ⟨(Nat.le_of_ble_eq_true rfl), (Nat.le_of_ble_eq_true rfl), (Nat.le_of_ble_eq_true rfl), (Nat.le_of_ble_eq_true rfl)⟩ 1 0 rfl rfl rfl rfl [1, 2, 0, 3, 4] _ (by decide : [1, 2, 0, 3, 4].Perm (List.range 5)) rfl (by decide : [1, 2, 0, 3, 4].Perm (List.range 5)) rfl (Nat.le_of_ble_eq_true rfl) rfl ?_
          refine g_aload_n X dX7_hide_63 0 rfl rfl ?_
          refine g_get X dX7_hide_64 ck_X7 0 0 1 rfl rfl (Nat.le_of_ble_eq_true rfl) lkf_X7_19 rfl ?_
          obtain ⟨q471, hq471, hf⟩ := obind hf
          refine g_callV (gs' := [FP h0 h1 h2 h3 h4 h5 h6 h7 h8 h9, TB cy h2 a1 a2 a3 q470.1, SU cy a2 a4 q470.2, HI h4 r1 q469.1, HR cy r1 ta q469.2]) (rest := []) X dX7_hide_67 (c_X4_allCases l D cy ad h2 a1 a2 a3 q470.1 hq471) mf_X4_allCases mv_X4_allCases lkm_X7_146 ⟨(Nat.le_of_ble_eq_true rfl), (Nat.le_of_ble_eq_true rfl), (Nat.le_of_ble_eq_true rfl), (Nat.le_of_ble_eq_true rfl)⟩ 1 0 rfl rfl rfl rfl [1, 0, 2, 3, 4] _ (by decide : [1, 0, 2, 3, 4].Perm (List.range 5)) rfl (by decide : [1, 0, 2, 3, 4].Perm (List.range 5)) rfl (Nat.le_of_ble_eq_true rfl) rfl ?_
          have hf := Option.some.inj hf
          subst hf
          exact g_xret (Nat.le_of_ble_eq_true rfl) (Nat.le_of_ble_eq_true rfl) (g_iret X hr dX7_hide_70)
        · have hf := oneg c472 hf
          refine g_sub [] (lv' := []) rfl ?_
          exact j_X7_hide_b33 X hr hne hfl v1 v2 vh vr hf
    · have hf := oneg c474 hf
      refine g_sub [] (lv' := []) rfl ?_
      exact j_X7_hide_b11 X hr hne hfl v1 v2 vh vr hf
abbrev rmX7_arms : Room := ({ frames := 6, cells := 1, slots := 6, locals := 90 } : Room)
def f_X7_arms_b14 (v1 : TBv) (v2 : Fn) (vh : HIv) (vr : HRv) : Option ((Int32 × TBv × HIv × HRv) ⊕ (Nat × TBv × HIv × HRv)) :=
  some (.inr (1, v1, vh, vr))
set_option maxRecDepth 100000 in
set_option maxHeartbeats 4000000 in
theorem j_X7_arms_b14 {p : Program} {l : Launch} {e : Env} {s : State} {m : MethodId} {args : Array Value} {below : List Frame} {meth : Method} {c : Code} {A : Nat → Prop} {D : va_G} {cy : Nat → ClassId} {ad : (Nat → Nat) × (Nat → Nat)} (X : gK p s m args meth c A D cy ad cX7_arms 3 RX7) (hr : meth.sig.returnType = (some .int)) (hne : ∀ x ∈ c.exceptionTable.toList, False) (hfl : l.stackTraces = false) {h0 h1 h2 h3 h4 h5 h6 h7 h8 h9 a1 a2 a3 a4 r1 : Nat} {ta : TAd} (v1 : TBv) (v2 : Fn) (vh : HIv) (vr : HRv) {q : (Int32 × TBv × HIv × HRv) ⊕ (Nat × TBv × HIv × HRv)} (hf : f_X7_arms_b14 v1 v2 vh vr = some q) : GW p l e rmX7_arms s m args below meth c A D 3 0 0 (vx_MQ below (xmQ D cy A (Sum.elim (fun q => Sum.inl ((some (.int q.1)), [FP h0 h1 h2 h3 h4 h5 h6 h7 h8 h9, TB cy h2 a1 a2 a3 q.2.1, SU cy a2 a4 v2, HI h4 r1 q.2.2.1, HR cy r1 ta q.2.2.2])) (fun q => Sum.inr (q.1, [FP h0 h1 h2 h3 h4 h5 h6 h7 h8 h9, TB cy h2 a1 a2 a3 q.2.1, SU cy a2 a4 v2, HI h4 r1 q.2.2.1, HR cy r1 ta q.2.2.2])) q : xRes)) (xmX D cy A (Sum.elim (fun q => Sum.inl ((some (.int q.1)), [FP h0 h1 h2 h3 h4 h5 h6 h7 h8 h9, TB cy h2 a1 a2 a3 q.2.1, SU cy a2 a4 v2, HI h4 r1 q.2.2.1, HR cy r1 ta q.2.2.2])) (fun q => Sum.inr (q.1, [FP h0 h1 h2 h3 h4 h5 h6 h7 h8 h9, TB cy h2 a1 a2 a3 q.2.1, SU cy a2 a4 v2, HI h4 r1 q.2.2.1, HR cy r1 ta q.2.2.2])) q : xRes)) args s 1 6 A) 14 [] [] [FP h0 h1 h2 h3 h4 h5 h6 h7 h8 h9, TB cy h2 a1 a2 a3 v1, SU cy a2 a4 v2, HI h4 r1 vh, HR cy r1 ta vr] := by
  unfold f_X7_arms_b14 at hf
  have hf := Option.some.inj hf
  subst hf
  exact g_throwS X hne hfl 1 14 (by decide) rfl rfl dX7_arms_14 dX7_arms_17 dX7_arms_18 dX7_arms_20 dX7_arms_23 xw_1 ⟨(Nat.le_of_ble_eq_true rfl), (Nat.le_of_ble_eq_true rfl), (Nat.le_of_ble_eq_true rfl), (Nat.le_of_ble_eq_true rfl)⟩ ⟨(Nat.le_of_ble_eq_true rfl), (Nat.le_of_ble_eq_true rfl)⟩
def f_X7_arms (v1 : TBv) (v2 : Fn) (vh : HIv) (vr : HRv) (p1 : Int32) (p2 : Int32) : Option ((Int32 × TBv × HIv × HRv) ⊕ (Nat × TBv × HIv × HRv)) :=
  (f_X7_isArm p1).bind (fun q484 => if (b2i q484) = 0 then f_X7_arms_b14 v1 v2 vh vr else (f_X7_isArm p2).bind (fun q485 => if (b2i q485) = 0 then f_X7_arms_b14 v1 v2 vh vr else (f_X0_remember vh vr v1 v2).bind (fun q486 => (f_X4_tryArms v1 p1 p2).bind (fun q487 => if p1 = p2 then some (.inl ((1 : Int32), q487.2, q486.1, q486.2)) else some (.inl ((0 : Int32), q487.2, q486.1, q486.2))))))
set_option maxRecDepth 100000 in
set_option maxHeartbeats 4000000 in
theorem c_X7_arms (l : Launch) (D : va_G) (cy : Nat → ClassId) (ad : (Nat → Nat) × (Nat → Nat)) (h0 : Nat) (h1 : Nat) (h2 : Nat) (h3 : Nat) (h4 : Nat) (h5 : Nat) (h6 : Nat) (h7 : Nat) (h8 : Nat) (h9 : Nat) (a1 : Nat) (a2 : Nat) (a3 : Nat) (a4 : Nat) (r1 : Nat) (ta : TAd) (v1 : TBv) (v2 : Fn) (vh : HIv) (vr : HRv) (p1 : Int32) (p2 : Int32) (hfl : l.stackTraces = false) {q : (Int32 × TBv × HIv × HRv) ⊕ (Nat × TBv × HIv × HRv)} (hf : f_X7_arms v1 v2 vh vr p1 p2 = some q) : XM l yX7_arms cX7_arms 3 (some .int) rmX7_arms D cy ad [.ref h0, .int p1, .int p2] [FP h0 h1 h2 h3 h4 h5 h6 h7 h8 h9, TB cy h2 a1 a2 a3 v1, SU cy a2 a4 v2, HI h4 r1 vh, HR cy r1 ta vr] (Sum.elim (fun q => Sum.inl ((some (.int q.1)), [FP h0 h1 h2 h3 h4 h5 h6 h7 h8 h9, TB cy h2 a1 a2 a3 q.2.1, SU cy a2 a4 v2, HI h4 r1 q.2.2.1, HR cy r1 ta q.2.2.2])) (fun q => Sum.inr (q.1, [FP h0 h1 h2 h3 h4 h5 h6 h7 h8 h9, TB cy h2 a1 a2 a3 q.2.1, SU cy a2 a4 v2, HI h4 r1 q.2.2.1, HR cy r1 ta q.2.2.2])) q : xRes) := by
  refine xm_of (lv0 := [(0, .ref h0), (1, .int p1), (2, .int p2)]) (by decide) (Nat.le_of_ble_eq_true rfl) rfl ?_
  intro p e s m args below meth c A X hr hne
  have X : gK p s m args meth c A D cy ad cX7_arms 3 RX7 := X
  unfold f_X7_arms at hf
  refine g_iload_n X dX7_arms_0 1 rfl rfl ?_
  obtain ⟨q484, hq484, hf⟩ := obind hf
  refine g_callS (gs' := [FP h0 h1 h2 h3 h4 h5 h6 h7 h8 h9, TB cy h2 a1 a2 a3 v1, SU cy a2 a4 v2, HI h4 r1 vh, HR cy r1 ta vr]) (rest := []) X dX7_arms_1 (c_X7_isArm l D cy ad p1 hq484) mf_X7_isArm ms_X7_isArm lkm_X7_216 ⟨(Nat.le_of_ble_eq_true rfl), (Nat.le_of_ble_eq_true rfl), (Nat.le_of_ble_eq_true rfl), (Nat.le_of_ble_eq_true rfl)⟩ [0, 1, 2, 3, 4] _ (by decide : [0, 1, 2, 3, 4].Perm (List.range 5)) rfl (by decide : [0, 1, 2, 3, 4].Perm (List.range 5)) rfl (Nat.le_of_ble_eq_true rfl) rfl ?_
  refine g_if_eq X 14 dX7_arms_4 (by decide) (fun c490 => ?_) (fun c490 => ?_)
  · have hf := opos c490 hf
    refine g_sub [] (lv' := []) rfl ?_
    exact j_X7_arms_b14 X hr hne hfl v1 v2 vh vr hf
  · have hf := oneg c490 hf
    refine g_iload_n X dX7_arms_7 2 rfl rfl ?_
    obtain ⟨q485, hq485, hf⟩ := obind hf
    refine g_callS (gs' := [FP h0 h1 h2 h3 h4 h5 h6 h7 h8 h9, TB cy h2 a1 a2 a3 v1, SU cy a2 a4 v2, HI h4 r1 vh, HR cy r1 ta vr]) (rest := []) X dX7_arms_8 (c_X7_isArm l D cy ad p2 hq485) mf_X7_isArm ms_X7_isArm lkm_X7_216 ⟨(Nat.le_of_ble_eq_true rfl), (Nat.le_of_ble_eq_true rfl), (Nat.le_of_ble_eq_true rfl), (Nat.le_of_ble_eq_true rfl)⟩ [0, 1, 2, 3, 4] _ (by decide : [0, 1, 2, 3, 4].Perm (List.range 5)) rfl (by decide : [0, 1, 2, 3, 4].Perm (List.range 5)) rfl (Nat.le_of_ble_eq_true rfl) rfl ?_
    refine g_if_ne X 24 dX7_arms_11 (by decide) (fun c489 => ?_) (fun c489 => ?_)
    · have hf := oneg c489 hf
      refine g_aload_n X dX7_arms_24 0 rfl rfl ?_
      refine g_get X dX7_arms_25 ck_X7 0 0 3 rfl rfl (Nat.le_of_ble_eq_true rfl) lkf_X7_29 rfl ?_
      refine g_aload_n X dX7_arms_28 0 rfl rfl ?_
      refine g_get X dX7_arms_29 ck_X7 0 0 1 rfl rfl (Nat.le_of_ble_eq_true rfl) lkf_X7_19 rfl ?_
      obtain ⟨q486, hq486, hf⟩ := obind hf
      refine g_callV (gs' := [FP h0 h1 h2 h3 h4 h5 h6 h7 h8 h9, TB cy h2 a1 a2 a3 v1, SU cy a2 a4 v2, HI h4 r1 q486.1, HR cy r1 ta q486.2]) (rest := []) X dX7_arms_32 (c_X0_remember l D cy ad h4 r1 ta h2 a1 a2 a3 a4 vh vr v1 v2 hq486) mf_X0_remember mv_X0_remember lkm_X7_212 ⟨(Nat.le_of_ble_eq_true rfl), (Nat.le_of_ble_eq_true rfl), (Nat.le_of_ble_eq_true rfl), (Nat.le_of_ble_eq_true rfl)⟩ 3 0 rfl rfl rfl rfl [3, 4, 1, 2, 0] _ (by decide : [3, 4, 1, 2, 0].Perm (List.range 5)) rfl (by decide : [3, 4, 1, 2, 0].Perm (List.range 5)) rfl (Nat.le_of_ble_eq_true rfl) rfl ?_
      refine g_aload_n X dX7_arms_35 0 rfl rfl ?_
      refine g_get X dX7_arms_36 ck_X7 0 0 1 rfl rfl (Nat.le_of_ble_eq_true rfl) lkf_X7_19 rfl ?_
      refine g_iload_n X dX7_arms_39 1 rfl rfl ?_
      refine g_iload_n X dX7_arms_40 2 rfl rfl ?_
      obtain ⟨q487, hq487, hf⟩ := obind hf
      refine g_callV (gs' := [FP h0 h1 h2 h3 h4 h5 h6 h7 h8 h9, TB cy h2 a1 a2 a3 q487.2, SU cy a2 a4 v2, HI h4 r1 q486.1, HR cy r1 ta q486.2]) (rest := []) X dX7_arms_41 (c_X4_tryArms l D cy ad h2 a1 a2 a3 v1 p1 p2 hq487) mf_X4_tryArms mv_X4_tryArms lkm_X7_138 ⟨(Nat.le_of_ble_eq_true rfl), (Nat.le_of_ble_eq_true rfl), (Nat.le_of_ble_eq_true rfl), (Nat.le_of_ble_eq_true rfl)⟩ 1 0 rfl rfl rfl rfl [1, 0, 2, 3, 4] _ (by decide : [1, 0, 2, 3, 4].Perm (List.range 5)) rfl (by decide : [1, 0, 2, 3, 4].Perm (List.range 5)) rfl (Nat.le_of_ble_eq_true rfl) rfl ?_
      refine g_pop X dX7_arms_44 rfl ?_
      refine g_iload_n X dX7_arms_45 1 rfl rfl ?_
      refine g_iload_n X dX7_arms_46 2 rfl rfl ?_
      refine g_icmp_ne X 54 dX7_arms_47 (by decide) (fun c488 => ?_) (fun c488 => ?_)
      · have hf := oneg c488 hf
        refine g_iconst X (0 : Int32) dX7_arms_54 (by decide) ?_
        have hf := Option.some.inj hf
        subst hf
        exact g_xret (Nat.le_of_ble_eq_true rfl) (Nat.le_of_ble_eq_true rfl) (g_iret X hr dX7_arms_55)
      · have hf := opos c488 hf
        refine g_iconst X (1 : Int32) dX7_arms_50 (by decide) ?_
        refine g_goto X 55 dX7_arms_51 (by decide) ?_
        have hf := Option.some.inj hf
        subst hf
        exact g_xret (Nat.le_of_ble_eq_true rfl) (Nat.le_of_ble_eq_true rfl) (g_iret X hr dX7_arms_55)
    · have hf := opos c489 hf
      refine g_sub [] (lv' := []) rfl ?_
      exact j_X7_arms_b14 X hr hne hfl v1 v2 vh vr hf
abbrev rmX7_refuseBadSets : Room := ({ frames := 6, cells := 1, slots := 6, locals := 90 } : Room)
def f_X7_refuseBadSets (v1 : TBv) (p1 : Int32) (p2 : Int32) : Option ((Unit) ⊕ (Nat)) :=
  (f_X4_canWeigh v1 p1 p2).bind (fun q493 => if (b2i q493) = 0 then some (.inr 1) else some (.inl ()))
set_option maxRecDepth 100000 in
set_option maxHeartbeats 4000000 in
theorem c_X7_refuseBadSets (l : Launch) (D : va_G) (cy : Nat → ClassId) (ad : (Nat → Nat) × (Nat → Nat)) (h0 : Nat) (h1 : Nat) (h2 : Nat) (h3 : Nat) (h4 : Nat) (h5 : Nat) (h6 : Nat) (h7 : Nat) (h8 : Nat) (h9 : Nat) (a1 : Nat) (a2 : Nat) (a3 : Nat) (v1 : TBv) (p1 : Int32) (p2 : Int32) (hfl : l.stackTraces = false) {q : (Unit) ⊕ (Nat)} (hf : f_X7_refuseBadSets v1 p1 p2 = some q) : XM l yX7_refuseBadSets cX7_refuseBadSets 3 none rmX7_refuseBadSets D cy ad [.ref h0, .int p1, .int p2] [FP h0 h1 h2 h3 h4 h5 h6 h7 h8 h9, TB cy h2 a1 a2 a3 v1] (Sum.elim (fun q => Sum.inl (none, [FP h0 h1 h2 h3 h4 h5 h6 h7 h8 h9, TB cy h2 a1 a2 a3 v1])) (fun q => Sum.inr (q, [FP h0 h1 h2 h3 h4 h5 h6 h7 h8 h9, TB cy h2 a1 a2 a3 v1])) q : xRes) := by
  refine xm_of (lv0 := [(0, .ref h0), (1, .int p1), (2, .int p2)]) (by decide) (Nat.le_of_ble_eq_true rfl) rfl ?_
  intro p e s m args below meth c A X hr hne
  have X : gK p s m args meth c A D cy ad cX7_refuseBadSets 3 RX7 := X
  unfold f_X7_refuseBadSets at hf
  refine g_aload_n X dX7_refuseBadSets_0 0 rfl rfl ?_
  refine g_get X dX7_refuseBadSets_1 ck_X7 0 0 1 rfl rfl (Nat.le_of_ble_eq_true rfl) lkf_X7_19 rfl ?_
  refine g_iload_n X dX7_refuseBadSets_4 1 rfl rfl ?_
  refine g_iload_n X dX7_refuseBadSets_5 2 rfl rfl ?_
  obtain ⟨q493, hq493, hf⟩ := obind hf
  refine g_callV (gs' := [FP h0 h1 h2 h3 h4 h5 h6 h7 h8 h9, TB cy h2 a1 a2 a3 v1]) (rest := []) X dX7_refuseBadSets_6 (c_X4_canWeigh l D cy ad h2 a1 a2 a3 v1 p1 p2 hq493) mf_X4_canWeigh mv_X4_canWeigh lkm_X7_315 ⟨(Nat.le_of_ble_eq_true rfl), (Nat.le_of_ble_eq_true rfl), (Nat.le_of_ble_eq_true rfl), (Nat.le_of_ble_eq_true rfl)⟩ 1 0 rfl rfl rfl rfl [1, 0] _ (by decide : [1, 0].Perm (List.range 2)) rfl (by decide : [1, 0].Perm (List.range 2)) rfl (Nat.le_of_ble_eq_true rfl) rfl ?_
  refine g_if_ne X 23 dX7_refuseBadSets_9 (by decide) (fun c494 => ?_) (fun c494 => ?_)
  · have hf := oneg c494 hf
    have hf := Option.some.inj hf
    subst hf
    exact g_xret (Nat.le_of_ble_eq_true rfl) (Nat.le_of_ble_eq_true rfl) (g_vret X hr dX7_refuseBadSets_23)
  · have hf := opos c494 hf
    have hf := Option.some.inj hf
    subst hf
    exact g_throwSW X hne hfl 1 15 (by decide) rfl rfl dX7_refuseBadSets_12 dX7_refuseBadSets_15 dX7_refuseBadSets_16 dX7_refuseBadSets_19 dX7_refuseBadSets_22 xw_1 ⟨(Nat.le_of_ble_eq_true rfl), (Nat.le_of_ble_eq_true rfl), (Nat.le_of_ble_eq_true rfl), (Nat.le_of_ble_eq_true rfl)⟩ ⟨(Nat.le_of_ble_eq_true rfl), (Nat.le_of_ble_eq_true rfl)⟩
abbrev rmX7_weigh : Room := ({ frames := 7, cells := 2, slots := 12, locals := 112 } : Room)
def f_X7_weigh (v1 : TBv) (v2 : Fn) (v3 : SCv) (vh : HIv) (vr : HRv) (p1 : Int32) (p2 : Int32) : Option ((Int32 × TBv × Fn × SCv × HIv × HRv) ⊕ (Nat × TBv × Fn × SCv × HIv × HRv)) :=
  (f_X7_refuseBadSets v1 p1 p2).bind (Sum.elim (fun q505 => (f_X4_isFull v1).bind (fun q506 => if (b2i q506) = 0 then (f_X0_remember vh vr v1 v2).bind (fun q507 => (f_X4_tryWeighing v1 v2 v3 p1 p2).bind (fun q508 => (f_X4_lastOutcome q508.2.1).bind (fun q509 => some (.inl (q509, q508.2.1, q508.2.2.1, q508.2.2.2, q507.1, q507.2))))) else some (.inr (2, v1, v2, v3, vh, vr)))) (fun q505 => some (.inr (q505, v1, v2, v3, vh, vr))))
set_option maxRecDepth 100000 in
set_option maxHeartbeats 4000000 in
theorem c_X7_weigh (l : Launch) (D : va_G) (cy : Nat → ClassId) (ad : (Nat → Nat) × (Nat → Nat)) (h0 : Nat) (h1 : Nat) (h2 : Nat) (h3 : Nat) (h4 : Nat) (h5 : Nat) (h6 : Nat) (h7 : Nat) (h8 : Nat) (h9 : Nat) (a1 : Nat) (a2 : Nat) (a3 : Nat) (a4 : Nat) (r1 : Nat) (ta : TAd) (v1 : TBv) (v2 : Fn) (v3 : SCv) (vh : HIv) (vr : HRv) (p1 : Int32) (p2 : Int32) (hfl : l.stackTraces = false) {q : (Int32 × TBv × Fn × SCv × HIv × HRv) ⊕ (Nat × TBv × Fn × SCv × HIv × HRv)} (hf : f_X7_weigh v1 v2 v3 vh vr p1 p2 = some q) : XM l yX7_weigh cX7_weigh 3 (some .int) rmX7_weigh D cy ad [.ref h0, .int p1, .int p2] [FP h0 h1 h2 h3 h4 h5 h6 h7 h8 h9, TB cy h2 a1 a2 a3 v1, SU cy a2 a4 v2, SC a3 v3, HI h4 r1 vh, HR cy r1 ta vr] (Sum.elim (fun q => Sum.inl ((some (.int q.1)), [FP h0 h1 h2 h3 h4 h5 h6 h7 h8 h9, TB cy h2 a1 a2 a3 q.2.1, SU cy a2 a4 q.2.2.1, SC a3 q.2.2.2.1, HI h4 r1 q.2.2.2.2.1, HR cy r1 ta q.2.2.2.2.2])) (fun q => Sum.inr (q.1, [FP h0 h1 h2 h3 h4 h5 h6 h7 h8 h9, TB cy h2 a1 a2 a3 q.2.1, SU cy a2 a4 q.2.2.1, SC a3 q.2.2.2.1, HI h4 r1 q.2.2.2.2.1, HR cy r1 ta q.2.2.2.2.2])) q : xRes) := by
  refine xm_of (lv0 := [(0, .ref h0), (1, .int p1), (2, .int p2)]) (by decide) (Nat.le_of_ble_eq_true rfl) rfl ?_
  intro p e s m args below meth c A X hr hne
  have X : gK p s m args meth c A D cy ad cX7_weigh 3 RX7 := X
  unfold f_X7_weigh at hf
  refine g_aload_n X dX7_weigh_0 0 rfl rfl ?_
  refine g_iload_n X dX7_weigh_1 1 rfl rfl ?_
  refine g_iload_n X dX7_weigh_2 2 rfl rfl ?_
  obtain ⟨q505, hq505, hf⟩ := obind hf
  rcases q505 with q505 | q505
  · have hf := sinl hf
    refine g_xcallR (gs' := [FP h0 h1 h2 h3 h4 h5 h6 h7 h8 h9, TB cy h2 a1 a2 a3 v1, SU cy a2 a4 v2, SC a3 v3, HI h4 r1 vh, HR cy r1 ta vr]) (rest := []) X dX7_weigh_3 (c_X7_refuseBadSets l D cy ad h0 h1 h2 h3 h4 h5 h6 h7 h8 h9 a1 a2 a3 v1 p1 p2 hfl hq505) mf_X7_refuseBadSets mv_X7_refuseBadSets lkm_X7_221 ⟨(Nat.le_of_ble_eq_true rfl), (Nat.le_of_ble_eq_true rfl), (Nat.le_of_ble_eq_true rfl), (Nat.le_of_ble_eq_true rfl)⟩ 0 0 rfl rfl rfl rfl [0, 1, 2, 3, 4, 5] _ (by decide : [0, 1, 2, 3, 4, 5].Perm (List.range 6)) rfl (by decide : [0, 1, 2, 3, 4, 5].Perm (List.range 6)) rfl (Nat.le_of_ble_eq_true rfl) rfl ?_
    refine g_aload_n X dX7_weigh_6 0 rfl rfl ?_
    refine g_get X dX7_weigh_7 ck_X7 0 0 1 rfl rfl (Nat.le_of_ble_eq_true rfl) lkf_X7_19 rfl ?_
    obtain ⟨q506, hq506, hf⟩ := obind hf
    refine g_callV (gs' := [FP h0 h1 h2 h3 h4 h5 h6 h7 h8 h9, TB cy h2 a1 a2 a3 v1, SU cy a2 a4 v2, SC a3 v3, HI h4 r1 vh, HR cy r1 ta vr]) (rest := []) X dX7_weigh_10 (c_X4_isFull l D cy ad h2 a1 a2 a3 v1 hq506) mf_X4_isFull mv_X4_isFull lkm_X7_224 ⟨(Nat.le_of_ble_eq_true rfl), (Nat.le_of_ble_eq_true rfl), (Nat.le_of_ble_eq_true rfl), (Nat.le_of_ble_eq_true rfl)⟩ 1 0 rfl rfl rfl rfl [1, 0, 2, 3, 4, 5] _ (by decide : [1, 0, 2, 3, 4, 5].Perm (List.range 6)) rfl (by decide : [1, 0, 2, 3, 4, 5].Perm (List.range 6)) rfl (Nat.le_of_ble_eq_true rfl) rfl ?_
    refine g_if_eq X 26 dX7_weigh_13 (by decide) (fun c510 => ?_) (fun c510 => ?_)
    · have hf := opos c510 hf
      refine g_aload_n X dX7_weigh_26 0 rfl rfl ?_
      refine g_get X dX7_weigh_27 ck_X7 0 0 3 rfl rfl (Nat.le_of_ble_eq_true rfl) lkf_X7_29 rfl ?_
      refine g_aload_n X dX7_weigh_30 0 rfl rfl ?_
      refine g_get X dX7_weigh_31 ck_X7 0 0 1 rfl rfl (Nat.le_of_ble_eq_true rfl) lkf_X7_19 rfl ?_
      obtain ⟨q507, hq507, hf⟩ := obind hf
      refine g_callV (gs' := [FP h0 h1 h2 h3 h4 h5 h6 h7 h8 h9, TB cy h2 a1 a2 a3 v1, SU cy a2 a4 v2, SC a3 v3, HI h4 r1 q507.1, HR cy r1 ta q507.2]) (rest := []) X dX7_weigh_34 (c_X0_remember l D cy ad h4 r1 ta h2 a1 a2 a3 a4 vh vr v1 v2 hq507) mf_X0_remember mv_X0_remember lkm_X7_212 ⟨(Nat.le_of_ble_eq_true rfl), (Nat.le_of_ble_eq_true rfl), (Nat.le_of_ble_eq_true rfl), (Nat.le_of_ble_eq_true rfl)⟩ 4 0 rfl rfl rfl rfl [4, 5, 1, 2, 0, 3] _ (by decide : [4, 5, 1, 2, 0, 3].Perm (List.range 6)) rfl (by decide : [4, 5, 1, 2, 0, 3].Perm (List.range 6)) rfl (Nat.le_of_ble_eq_true rfl) rfl ?_
      refine g_aload_n X dX7_weigh_37 0 rfl rfl ?_
      refine g_get X dX7_weigh_38 ck_X7 0 0 1 rfl rfl (Nat.le_of_ble_eq_true rfl) lkf_X7_19 rfl ?_
      refine g_iload_n X dX7_weigh_41 1 rfl rfl ?_
      refine g_iload_n X dX7_weigh_42 2 rfl rfl ?_
      obtain ⟨q508, hq508, hf⟩ := obind hf
      refine g_callV (gs' := [FP h0 h1 h2 h3 h4 h5 h6 h7 h8 h9, TB cy h2 a1 a2 a3 q508.2.1, SU cy a2 a4 q508.2.2.1, SC a3 q508.2.2.2, HI h4 r1 q507.1, HR cy r1 ta q507.2]) (rest := []) X dX7_weigh_43 (c_X4_tryWeighing l D cy ad h2 a1 a2 a3 a4 v1 v2 v3 p1 p2 hq508) mf_X4_tryWeighing mv_X4_tryWeighing lkm_X7_142 ⟨(Nat.le_of_ble_eq_true rfl), (Nat.le_of_ble_eq_true rfl), (Nat.le_of_ble_eq_true rfl), (Nat.le_of_ble_eq_true rfl)⟩ 1 0 rfl rfl rfl rfl [1, 2, 3, 0, 4, 5] _ (by decide : [1, 2, 3, 0, 4, 5].Perm (List.range 6)) rfl (by decide : [1, 2, 3, 0, 4, 5].Perm (List.range 6)) rfl (Nat.le_of_ble_eq_true rfl) rfl ?_
      refine g_pop X dX7_weigh_46 rfl ?_
      refine g_aload_n X dX7_weigh_47 0 rfl rfl ?_
      refine g_get X dX7_weigh_48 ck_X7 0 0 1 rfl rfl (Nat.le_of_ble_eq_true rfl) lkf_X7_19 rfl ?_
      obtain ⟨q509, hq509, hf⟩ := obind hf
      refine g_callV (gs' := [FP h0 h1 h2 h3 h4 h5 h6 h7 h8 h9, TB cy h2 a1 a2 a3 q508.2.1, SU cy a2 a4 q508.2.2.1, SC a3 q508.2.2.2, HI h4 r1 q507.1, HR cy r1 ta q507.2]) (rest := []) X dX7_weigh_51 (c_X4_lastOutcome l D cy ad h2 a1 a2 a3 q508.2.1 hq509) mf_X4_lastOutcome mv_X4_lastOutcome lkm_X7_229 ⟨(Nat.le_of_ble_eq_true rfl), (Nat.le_of_ble_eq_true rfl), (Nat.le_of_ble_eq_true rfl), (Nat.le_of_ble_eq_true rfl)⟩ 1 0 rfl rfl rfl rfl [1, 0, 2, 3, 4, 5] _ (by decide : [1, 0, 2, 3, 4, 5].Perm (List.range 6)) rfl (by decide : [1, 0, 2, 3, 4, 5].Perm (List.range 6)) rfl (Nat.le_of_ble_eq_true rfl) rfl ?_
      have hf := Option.some.inj hf
      subst hf
      exact g_xret (Nat.le_of_ble_eq_true rfl) (Nat.le_of_ble_eq_true rfl) (g_iret X hr dX7_weigh_54)
    · have hf := oneg c510 hf
      have hf := Option.some.inj hf
      subst hf
      exact g_throwS X hne hfl 2 16 (by decide) rfl rfl dX7_weigh_16 dX7_weigh_19 dX7_weigh_20 dX7_weigh_22 dX7_weigh_25 xw_2 ⟨(Nat.le_of_ble_eq_true rfl), (Nat.le_of_ble_eq_true rfl), (Nat.le_of_ble_eq_true rfl), (Nat.le_of_ble_eq_true rfl)⟩ ⟨(Nat.le_of_ble_eq_true rfl), (Nat.le_of_ble_eq_true rfl)⟩
  · have hf := sinr hf
    have hf := Option.some.inj hf
    subst hf
    refine g_xcallT (gs' := [FP h0 h1 h2 h3 h4 h5 h6 h7 h8 h9, TB cy h2 a1 a2 a3 v1, SU cy a2 a4 v2, SC a3 v3, HI h4 r1 vh, HR cy r1 ta vr]) (rest := []) X dX7_weigh_3 (c_X7_refuseBadSets l D cy ad h0 h1 h2 h3 h4 h5 h6 h7 h8 h9 a1 a2 a3 v1 p1 p2 hfl hq505) mf_X7_refuseBadSets mv_X7_refuseBadSets lkm_X7_221 ⟨(Nat.le_of_ble_eq_true rfl), (Nat.le_of_ble_eq_true rfl), (Nat.le_of_ble_eq_true rfl), (Nat.le_of_ble_eq_true rfl)⟩ 0 0 rfl rfl rfl rfl [0, 1, 2, 3, 4, 5] _ (by decide : [0, 1, 2, 3, 4, 5].Perm (List.range 6)) rfl (by decide : [0, 1, 2, 3, 4, 5].Perm (List.range 6)) rfl (Nat.le_of_ble_eq_true rfl) rfl ?_
    exact g_xout X hne (Nat.le_of_ble_eq_true rfl) (Nat.le_of_ble_eq_true rfl)
abbrev rmX7_accuse : Room := ({ frames := 6, cells := 1, slots := 6, locals := 90 } : Room)
def f_X7_accuse (v1 : TBv) (v2 : Fn) (vh : HIv) (vr : HRv) (p1 : Int32) (p2 : Bool) : Option ((Int32 × TBv × HIv × HRv) ⊕ (Nat × TBv × HIv × HRv)) :=
  (f_X4_hasCoin v1 p1).bind (fun q517 => if (b2i q517) = 0 then some (.inr (3, v1, vh, vr)) else (f_X0_remember vh vr v1 v2).bind (fun q518 => (f_X4_blameCoin v1 p1 p2).bind (fun q519 => if (b2i q519.1) = 0 then some (.inl ((0 : Int32), q519.2, q518.1, q518.2)) else some (.inl ((1 : Int32), q519.2, q518.1, q518.2)))))
set_option maxRecDepth 100000 in
set_option maxHeartbeats 4000000 in
theorem c_X7_accuse (l : Launch) (D : va_G) (cy : Nat → ClassId) (ad : (Nat → Nat) × (Nat → Nat)) (h0 : Nat) (h1 : Nat) (h2 : Nat) (h3 : Nat) (h4 : Nat) (h5 : Nat) (h6 : Nat) (h7 : Nat) (h8 : Nat) (h9 : Nat) (a1 : Nat) (a2 : Nat) (a3 : Nat) (a4 : Nat) (r1 : Nat) (ta : TAd) (v1 : TBv) (v2 : Fn) (vh : HIv) (vr : HRv) (p1 : Int32) (p2 : Bool) (hfl : l.stackTraces = false) {q : (Int32 × TBv × HIv × HRv) ⊕ (Nat × TBv × HIv × HRv)} (hf : f_X7_accuse v1 v2 vh vr p1 p2 = some q) : XM l yX7_accuse cX7_accuse 3 (some .int) rmX7_accuse D cy ad [.ref h0, .int p1, .int (b2i p2)] [FP h0 h1 h2 h3 h4 h5 h6 h7 h8 h9, TB cy h2 a1 a2 a3 v1, SU cy a2 a4 v2, HI h4 r1 vh, HR cy r1 ta vr] (Sum.elim (fun q => Sum.inl ((some (.int q.1)), [FP h0 h1 h2 h3 h4 h5 h6 h7 h8 h9, TB cy h2 a1 a2 a3 q.2.1, SU cy a2 a4 v2, HI h4 r1 q.2.2.1, HR cy r1 ta q.2.2.2])) (fun q => Sum.inr (q.1, [FP h0 h1 h2 h3 h4 h5 h6 h7 h8 h9, TB cy h2 a1 a2 a3 q.2.1, SU cy a2 a4 v2, HI h4 r1 q.2.2.1, HR cy r1 ta q.2.2.2])) q : xRes) := by
  refine xm_of (lv0 := [(0, .ref h0), (1, .int p1), (2, .int (b2i p2))]) (by decide) (Nat.le_of_ble_eq_true rfl) rfl ?_
  intro p e s m args below meth c A X hr hne
  have X : gK p s m args meth c A D cy ad cX7_accuse 3 RX7 := X
  unfold f_X7_accuse at hf
  refine g_aload_n X dX7_accuse_0 0 rfl rfl ?_
  refine g_get X dX7_accuse_1 ck_X7 0 0 1 rfl rfl (Nat.le_of_ble_eq_true rfl) lkf_X7_19 rfl ?_
  refine g_iload_n X dX7_accuse_4 1 rfl rfl ?_
  obtain ⟨q517, hq517, hf⟩ := obind hf
  refine g_callV (gs' := [FP h0 h1 h2 h3 h4 h5 h6 h7 h8 h9, TB cy h2 a1 a2 a3 v1, SU cy a2 a4 v2, HI h4 r1 vh, HR cy r1 ta vr]) (rest := []) X dX7_accuse_5 (c_X4_hasCoin l D cy ad h2 a1 a2 a3 v1 p1 hq517) mf_X4_hasCoin mv_X4_hasCoin lkm_X7_178 ⟨(Nat.le_of_ble_eq_true rfl), (Nat.le_of_ble_eq_true rfl), (Nat.le_of_ble_eq_true rfl), (Nat.le_of_ble_eq_true rfl)⟩ 1 0 rfl rfl rfl rfl [1, 0, 2, 3, 4] _ (by decide : [1, 0, 2, 3, 4].Perm (List.range 5)) rfl (by decide : [1, 0, 2, 3, 4].Perm (List.range 5)) rfl (Nat.le_of_ble_eq_true rfl) rfl ?_
  refine g_if_ne X 21 dX7_accuse_8 (by decide) (fun c521 => ?_) (fun c521 => ?_)
  · have hf := oneg c521 hf
    refine g_aload_n X dX7_accuse_21 0 rfl rfl ?_
    refine g_get X dX7_accuse_22 ck_X7 0 0 3 rfl rfl (Nat.le_of_ble_eq_true rfl) lkf_X7_29 rfl ?_
    refine g_aload_n X dX7_accuse_25 0 rfl rfl ?_
    refine g_get X dX7_accuse_26 ck_X7 0 0 1 rfl rfl (Nat.le_of_ble_eq_true rfl) lkf_X7_19 rfl ?_
    obtain ⟨q518, hq518, hf⟩ := obind hf
    refine g_callV (gs' := [FP h0 h1 h2 h3 h4 h5 h6 h7 h8 h9, TB cy h2 a1 a2 a3 v1, SU cy a2 a4 v2, HI h4 r1 q518.1, HR cy r1 ta q518.2]) (rest := []) X dX7_accuse_29 (c_X0_remember l D cy ad h4 r1 ta h2 a1 a2 a3 a4 vh vr v1 v2 hq518) mf_X0_remember mv_X0_remember lkm_X7_212 ⟨(Nat.le_of_ble_eq_true rfl), (Nat.le_of_ble_eq_true rfl), (Nat.le_of_ble_eq_true rfl), (Nat.le_of_ble_eq_true rfl)⟩ 3 0 rfl rfl rfl rfl [3, 4, 1, 2, 0] _ (by decide : [3, 4, 1, 2, 0].Perm (List.range 5)) rfl (by decide : [3, 4, 1, 2, 0].Perm (List.range 5)) rfl (Nat.le_of_ble_eq_true rfl) rfl ?_
    refine g_aload_n X dX7_accuse_32 0 rfl rfl ?_
    refine g_get X dX7_accuse_33 ck_X7 0 0 1 rfl rfl (Nat.le_of_ble_eq_true rfl) lkf_X7_19 rfl ?_
    refine g_iload_n X dX7_accuse_36 1 rfl rfl ?_
    refine g_iload_n X dX7_accuse_37 2 rfl rfl ?_
    obtain ⟨q519, hq519, hf⟩ := obind hf
    refine g_callV (gs' := [FP h0 h1 h2 h3 h4 h5 h6 h7 h8 h9, TB cy h2 a1 a2 a3 q519.2, SU cy a2 a4 v2, HI h4 r1 q518.1, HR cy r1 ta q518.2]) (rest := []) X dX7_accuse_38 (c_X4_blameCoin l D cy ad h2 a1 a2 a3 v1 p1 p2 hq519) mf_X4_blameCoin mv_X4_blameCoin lkm_X7_232 ⟨(Nat.le_of_ble_eq_true rfl), (Nat.le_of_ble_eq_true rfl), (Nat.le_of_ble_eq_true rfl), (Nat.le_of_ble_eq_true rfl)⟩ 1 0 rfl rfl rfl rfl [1, 0, 2, 3, 4] _ (by decide : [1, 0, 2, 3, 4].Perm (List.range 5)) rfl (by decide : [1, 0, 2, 3, 4].Perm (List.range 5)) rfl (Nat.le_of_ble_eq_true rfl) rfl ?_
    refine g_if_eq X 48 dX7_accuse_41 (by decide) (fun c520 => ?_) (fun c520 => ?_)
    · have hf := opos c520 hf
      refine g_iconst X (0 : Int32) dX7_accuse_48 (by decide) ?_
      have hf := Option.some.inj hf
      subst hf
      exact g_xret (Nat.le_of_ble_eq_true rfl) (Nat.le_of_ble_eq_true rfl) (g_iret X hr dX7_accuse_49)
    · have hf := oneg c520 hf
      refine g_iconst X (1 : Int32) dX7_accuse_44 (by decide) ?_
      refine g_goto X 49 dX7_accuse_45 (by decide) ?_
      have hf := Option.some.inj hf
      subst hf
      exact g_xret (Nat.le_of_ble_eq_true rfl) (Nat.le_of_ble_eq_true rfl) (g_iret X hr dX7_accuse_49)
  · have hf := opos c521 hf
    have hf := Option.some.inj hf
    subst hf
    exact g_throwS X hne hfl 3 9 (by decide) rfl rfl dX7_accuse_11 dX7_accuse_14 dX7_accuse_15 dX7_accuse_17 dX7_accuse_20 xw_3 ⟨(Nat.le_of_ble_eq_true rfl), (Nat.le_of_ble_eq_true rfl), (Nat.le_of_ble_eq_true rfl), (Nat.le_of_ble_eq_true rfl)⟩ ⟨(Nat.le_of_ble_eq_true rfl), (Nat.le_of_ble_eq_true rfl)⟩
abbrev rmX7_accusePan : Room := ({ frames := 6, cells := 1, slots := 6, locals := 90 } : Room)
def f_X7_accusePan (v1 : TBv) (v2 : Fn) (vh : HIv) (vr : HRv) (p1 : Int32) : Option ((Int32 × TBv × HIv × HRv) ⊕ (Nat × TBv × HIv × HRv)) :=
  (f_X7_isPan p1).bind (fun q530 => if (b2i q530) = 0 then some (.inr (1, v1, vh, vr)) else (f_X0_remember vh vr v1 v2).bind (fun q531 => (f_X4_blamePan v1 p1).bind (fun q532 => if (b2i q532.1) = 0 then some (.inl ((0 : Int32), q532.2, q531.1, q531.2)) else some (.inl ((1 : Int32), q532.2, q531.1, q531.2)))))
set_option maxRecDepth 100000 in
set_option maxHeartbeats 4000000 in
theorem c_X7_accusePan (l : Launch) (D : va_G) (cy : Nat → ClassId) (ad : (Nat → Nat) × (Nat → Nat)) (h0 : Nat) (h1 : Nat) (h2 : Nat) (h3 : Nat) (h4 : Nat) (h5 : Nat) (h6 : Nat) (h7 : Nat) (h8 : Nat) (h9 : Nat) (a1 : Nat) (a2 : Nat) (a3 : Nat) (a4 : Nat) (r1 : Nat) (ta : TAd) (v1 : TBv) (v2 : Fn) (vh : HIv) (vr : HRv) (p1 : Int32) (hfl : l.stackTraces = false) {q : (Int32 × TBv × HIv × HRv) ⊕ (Nat × TBv × HIv × HRv)} (hf : f_X7_accusePan v1 v2 vh vr p1 = some q) : XM l yX7_accusePan cX7_accusePan 2 (some .int) rmX7_accusePan D cy ad [.ref h0, .int p1] [FP h0 h1 h2 h3 h4 h5 h6 h7 h8 h9, TB cy h2 a1 a2 a3 v1, SU cy a2 a4 v2, HI h4 r1 vh, HR cy r1 ta vr] (Sum.elim (fun q => Sum.inl ((some (.int q.1)), [FP h0 h1 h2 h3 h4 h5 h6 h7 h8 h9, TB cy h2 a1 a2 a3 q.2.1, SU cy a2 a4 v2, HI h4 r1 q.2.2.1, HR cy r1 ta q.2.2.2])) (fun q => Sum.inr (q.1, [FP h0 h1 h2 h3 h4 h5 h6 h7 h8 h9, TB cy h2 a1 a2 a3 q.2.1, SU cy a2 a4 v2, HI h4 r1 q.2.2.1, HR cy r1 ta q.2.2.2])) q : xRes) := by
  refine xm_of (lv0 := [(0, .ref h0), (1, .int p1)]) (by decide) (Nat.le_of_ble_eq_true rfl) rfl ?_
  intro p e s m args below meth c A X hr hne
  have X : gK p s m args meth c A D cy ad cX7_accusePan 2 RX7 := X
  unfold f_X7_accusePan at hf
  refine g_iload_n X dX7_accusePan_0 1 rfl rfl ?_
  obtain ⟨q530, hq530, hf⟩ := obind hf
  refine g_callS (gs' := [FP h0 h1 h2 h3 h4 h5 h6 h7 h8 h9, TB cy h2 a1 a2 a3 v1, SU cy a2 a4 v2, HI h4 r1 vh, HR cy r1 ta vr]) (rest := []) X dX7_accusePan_1 (c_X7_isPan l D cy ad p1 hq530) mf_X7_isPan ms_X7_isPan lkm_X7_236 ⟨(Nat.le_of_ble_eq_true rfl), (Nat.le_of_ble_eq_true rfl), (Nat.le_of_ble_eq_true rfl), (Nat.le_of_ble_eq_true rfl)⟩ [0, 1, 2, 3, 4] _ (by decide : [0, 1, 2, 3, 4].Perm (List.range 5)) rfl (by decide : [0, 1, 2, 3, 4].Perm (List.range 5)) rfl (Nat.le_of_ble_eq_true rfl) rfl ?_
  refine g_if_ne X 17 dX7_accusePan_4 (by decide) (fun c534 => ?_) (fun c534 => ?_)
  · have hf := oneg c534 hf
    refine g_aload_n X dX7_accusePan_17 0 rfl rfl ?_
    refine g_get X dX7_accusePan_18 ck_X7 0 0 3 rfl rfl (Nat.le_of_ble_eq_true rfl) lkf_X7_29 rfl ?_
    refine g_aload_n X dX7_accusePan_21 0 rfl rfl ?_
    refine g_get X dX7_accusePan_22 ck_X7 0 0 1 rfl rfl (Nat.le_of_ble_eq_true rfl) lkf_X7_19 rfl ?_
    obtain ⟨q531, hq531, hf⟩ := obind hf
    refine g_callV (gs' := [FP h0 h1 h2 h3 h4 h5 h6 h7 h8 h9, TB cy h2 a1 a2 a3 v1, SU cy a2 a4 v2, HI h4 r1 q531.1, HR cy r1 ta q531.2]) (rest := []) X dX7_accusePan_25 (c_X0_remember l D cy ad h4 r1 ta h2 a1 a2 a3 a4 vh vr v1 v2 hq531) mf_X0_remember mv_X0_remember lkm_X7_212 ⟨(Nat.le_of_ble_eq_true rfl), (Nat.le_of_ble_eq_true rfl), (Nat.le_of_ble_eq_true rfl), (Nat.le_of_ble_eq_true rfl)⟩ 3 0 rfl rfl rfl rfl [3, 4, 1, 2, 0] _ (by decide : [3, 4, 1, 2, 0].Perm (List.range 5)) rfl (by decide : [3, 4, 1, 2, 0].Perm (List.range 5)) rfl (Nat.le_of_ble_eq_true rfl) rfl ?_
    refine g_aload_n X dX7_accusePan_28 0 rfl rfl ?_
    refine g_get X dX7_accusePan_29 ck_X7 0 0 1 rfl rfl (Nat.le_of_ble_eq_true rfl) lkf_X7_19 rfl ?_
    refine g_iload_n X dX7_accusePan_32 1 rfl rfl ?_
    obtain ⟨q532, hq532, hf⟩ := obind hf
    refine g_callV (gs' := [FP h0 h1 h2 h3 h4 h5 h6 h7 h8 h9, TB cy h2 a1 a2 a3 q532.2, SU cy a2 a4 v2, HI h4 r1 q531.1, HR cy r1 ta q531.2]) (rest := []) X dX7_accusePan_33 (c_X4_blamePan l D cy ad h2 a1 a2 a3 v1 p1 hq532) mf_X4_blamePan mv_X4_blamePan lkm_X7_241 ⟨(Nat.le_of_ble_eq_true rfl), (Nat.le_of_ble_eq_true rfl), (Nat.le_of_ble_eq_true rfl), (Nat.le_of_ble_eq_true rfl)⟩ 1 0 rfl rfl rfl rfl [1, 0, 2, 3, 4] _ (by decide : [1, 0, 2, 3, 4].Perm (List.range 5)) rfl (by decide : [1, 0, 2, 3, 4].Perm (List.range 5)) rfl (Nat.le_of_ble_eq_true rfl) rfl ?_
    refine g_if_eq X 43 dX7_accusePan_36 (by decide) (fun c533 => ?_) (fun c533 => ?_)
    · have hf := opos c533 hf
      refine g_iconst X (0 : Int32) dX7_accusePan_43 (by decide) ?_
      have hf := Option.some.inj hf
      subst hf
      exact g_xret (Nat.le_of_ble_eq_true rfl) (Nat.le_of_ble_eq_true rfl) (g_iret X hr dX7_accusePan_44)
    · have hf := oneg c533 hf
      refine g_iconst X (1 : Int32) dX7_accusePan_39 (by decide) ?_
      refine g_goto X 44 dX7_accusePan_40 (by decide) ?_
      have hf := Option.some.inj hf
      subst hf
      exact g_xret (Nat.le_of_ble_eq_true rfl) (Nat.le_of_ble_eq_true rfl) (g_iret X hr dX7_accusePan_44)
  · have hf := opos c534 hf
    have hf := Option.some.inj hf
    subst hf
    exact g_throwS X hne hfl 1 17 (by decide) rfl rfl dX7_accusePan_7 dX7_accusePan_10 dX7_accusePan_11 dX7_accusePan_13 dX7_accusePan_16 xw_1 ⟨(Nat.le_of_ble_eq_true rfl), (Nat.le_of_ble_eq_true rfl), (Nat.le_of_ble_eq_true rfl), (Nat.le_of_ble_eq_true rfl)⟩ ⟨(Nat.le_of_ble_eq_true rfl), (Nat.le_of_ble_eq_true rfl)⟩
abbrev rmX7_forget : Room := ({ frames := 6, cells := 1, slots := 6, locals := 90 } : Room)
def f_X7_forget (v1 : TBv) (v2 : Fn) (v3 : SCv) (vh : HIv) (vr : HRv) : Option ((Int32 × TBv × Fn × SCv × HIv × HRv) ⊕ (Nat × TBv × Fn × SCv × HIv × HRv)) :=
  if 0 < v1.2.2.2.2.2.2.1 then (f_X0_remember vh vr v1 v2).bind (fun q539 => (f_X4_tryForgetting v1 v2 v3).bind (fun q540 => some (.inl (q540.2.1.2.2.2.2.2.2.1, q540.2.1, q540.2.2.1, q540.2.2.2, q539.1, q539.2)))) else some (.inr (2, v1, v2, v3, vh, vr))
set_option maxRecDepth 100000 in
set_option maxHeartbeats 4000000 in
theorem c_X7_forget (l : Launch) (D : va_G) (cy : Nat → ClassId) (ad : (Nat → Nat) × (Nat → Nat)) (h0 : Nat) (h1 : Nat) (h2 : Nat) (h3 : Nat) (h4 : Nat) (h5 : Nat) (h6 : Nat) (h7 : Nat) (h8 : Nat) (h9 : Nat) (a1 : Nat) (a2 : Nat) (a3 : Nat) (a4 : Nat) (r1 : Nat) (ta : TAd) (v1 : TBv) (v2 : Fn) (v3 : SCv) (vh : HIv) (vr : HRv) (hfl : l.stackTraces = false) {q : (Int32 × TBv × Fn × SCv × HIv × HRv) ⊕ (Nat × TBv × Fn × SCv × HIv × HRv)} (hf : f_X7_forget v1 v2 v3 vh vr = some q) : XM l yX7_forget cX7_forget 1 (some .int) rmX7_forget D cy ad [.ref h0] [FP h0 h1 h2 h3 h4 h5 h6 h7 h8 h9, TB cy h2 a1 a2 a3 v1, SU cy a2 a4 v2, SC a3 v3, HI h4 r1 vh, HR cy r1 ta vr] (Sum.elim (fun q => Sum.inl ((some (.int q.1)), [FP h0 h1 h2 h3 h4 h5 h6 h7 h8 h9, TB cy h2 a1 a2 a3 q.2.1, SU cy a2 a4 q.2.2.1, SC a3 q.2.2.2.1, HI h4 r1 q.2.2.2.2.1, HR cy r1 ta q.2.2.2.2.2])) (fun q => Sum.inr (q.1, [FP h0 h1 h2 h3 h4 h5 h6 h7 h8 h9, TB cy h2 a1 a2 a3 q.2.1, SU cy a2 a4 q.2.2.1, SC a3 q.2.2.2.1, HI h4 r1 q.2.2.2.2.1, HR cy r1 ta q.2.2.2.2.2])) q : xRes) := by
  refine xm_of (lv0 := [(0, .ref h0)]) (by decide) (Nat.le_of_ble_eq_true rfl) rfl ?_
  intro p e s m args below meth c A X hr hne
  have X : gK p s m args meth c A D cy ad cX7_forget 1 RX7 := X
  unfold f_X7_forget at hf
  refine g_aload_n X dX7_forget_0 0 rfl rfl ?_
  refine g_get X dX7_forget_1 ck_X7 0 0 1 rfl rfl (Nat.le_of_ble_eq_true rfl) lkf_X7_19 rfl ?_
  refine g_get X dX7_forget_4 ck_X4 1 0 6 rfl rfl (Nat.le_of_ble_eq_true rfl) lkf_X7_158 rfl ?_
  refine g_if_gt X 20 dX7_forget_7 (by decide) (fun c541 => ?_) (fun c541 => ?_)
  · have hf := opos c541 hf
    refine g_aload_n X dX7_forget_20 0 rfl rfl ?_
    refine g_get X dX7_forget_21 ck_X7 0 0 3 rfl rfl (Nat.le_of_ble_eq_true rfl) lkf_X7_29 rfl ?_
    refine g_aload_n X dX7_forget_24 0 rfl rfl ?_
    refine g_get X dX7_forget_25 ck_X7 0 0 1 rfl rfl (Nat.le_of_ble_eq_true rfl) lkf_X7_19 rfl ?_
    obtain ⟨q539, hq539, hf⟩ := obind hf
    refine g_callV (gs' := [FP h0 h1 h2 h3 h4 h5 h6 h7 h8 h9, TB cy h2 a1 a2 a3 v1, SU cy a2 a4 v2, SC a3 v3, HI h4 r1 q539.1, HR cy r1 ta q539.2]) (rest := []) X dX7_forget_28 (c_X0_remember l D cy ad h4 r1 ta h2 a1 a2 a3 a4 vh vr v1 v2 hq539) mf_X0_remember mv_X0_remember lkm_X7_212 ⟨(Nat.le_of_ble_eq_true rfl), (Nat.le_of_ble_eq_true rfl), (Nat.le_of_ble_eq_true rfl), (Nat.le_of_ble_eq_true rfl)⟩ 4 0 rfl rfl rfl rfl [4, 5, 1, 2, 0, 3] _ (by decide : [4, 5, 1, 2, 0, 3].Perm (List.range 6)) rfl (by decide : [4, 5, 1, 2, 0, 3].Perm (List.range 6)) rfl (Nat.le_of_ble_eq_true rfl) rfl ?_
    refine g_aload_n X dX7_forget_31 0 rfl rfl ?_
    refine g_get X dX7_forget_32 ck_X7 0 0 1 rfl rfl (Nat.le_of_ble_eq_true rfl) lkf_X7_19 rfl ?_
    obtain ⟨q540, hq540, hf⟩ := obind hf
    refine g_callV (gs' := [FP h0 h1 h2 h3 h4 h5 h6 h7 h8 h9, TB cy h2 a1 a2 a3 q540.2.1, SU cy a2 a4 q540.2.2.1, SC a3 q540.2.2.2, HI h4 r1 q539.1, HR cy r1 ta q539.2]) (rest := []) X dX7_forget_35 (c_X4_tryForgetting l D cy ad h2 a1 a2 a3 a4 v1 v2 v3 hq540) mf_X4_tryForgetting mv_X4_tryForgetting lkm_X7_246 ⟨(Nat.le_of_ble_eq_true rfl), (Nat.le_of_ble_eq_true rfl), (Nat.le_of_ble_eq_true rfl), (Nat.le_of_ble_eq_true rfl)⟩ 1 0 rfl rfl rfl rfl [1, 2, 3, 0, 4, 5] _ (by decide : [1, 2, 3, 0, 4, 5].Perm (List.range 6)) rfl (by decide : [1, 2, 3, 0, 4, 5].Perm (List.range 6)) rfl (Nat.le_of_ble_eq_true rfl) rfl ?_
    refine g_pop X dX7_forget_38 rfl ?_
    refine g_aload_n X dX7_forget_39 0 rfl rfl ?_
    refine g_get X dX7_forget_40 ck_X7 0 0 1 rfl rfl (Nat.le_of_ble_eq_true rfl) lkf_X7_19 rfl ?_
    refine g_get X dX7_forget_43 ck_X4 1 0 6 rfl rfl (Nat.le_of_ble_eq_true rfl) lkf_X7_158 rfl ?_
    have hf := Option.some.inj hf
    subst hf
    exact g_xret (Nat.le_of_ble_eq_true rfl) (Nat.le_of_ble_eq_true rfl) (g_iret X hr dX7_forget_46)
  · have hf := oneg c541 hf
    have hf := Option.some.inj hf
    subst hf
    exact g_throwS X hne hfl 2 18 (by decide) rfl rfl dX7_forget_10 dX7_forget_13 dX7_forget_14 dX7_forget_16 dX7_forget_19 xw_2 ⟨(Nat.le_of_ble_eq_true rfl), (Nat.le_of_ble_eq_true rfl), (Nat.le_of_ble_eq_true rfl), (Nat.le_of_ble_eq_true rfl)⟩ ⟨(Nat.le_of_ble_eq_true rfl), (Nat.le_of_ble_eq_true rfl)⟩
abbrev rmX7_undo : Room := ({ frames := 6, cells := 1, slots := 6, locals := 90 } : Room)
def f_X7_undo (v1 : TBv) (v2 : Fn) (vh : HIv) (vr : HRv) : Option ((Int32 × TBv × Fn × HIv) ⊕ (Nat × TBv × Fn × HIv)) :=
  if 0 < vh.2 then (f_X0_takeBack vh vr v1 v2).bind (fun q544 => some (.inl (q544.1.2, q544.2.1, q544.2.2, q544.1))) else some (.inr (2, v1, v2, vh))
set_option maxRecDepth 100000 in
set_option maxHeartbeats 4000000 in
theorem c_X7_undo (l : Launch) (D : va_G) (cy : Nat → ClassId) (ad : (Nat → Nat) × (Nat → Nat)) (h0 : Nat) (h1 : Nat) (h2 : Nat) (h3 : Nat) (h4 : Nat) (h5 : Nat) (h6 : Nat) (h7 : Nat) (h8 : Nat) (h9 : Nat) (a1 : Nat) (a2 : Nat) (a3 : Nat) (a4 : Nat) (r1 : Nat) (ta : TAd) (v1 : TBv) (v2 : Fn) (vh : HIv) (vr : HRv) (hfl : l.stackTraces = false) {q : (Int32 × TBv × Fn × HIv) ⊕ (Nat × TBv × Fn × HIv)} (hf : f_X7_undo v1 v2 vh vr = some q) : XM l yX7_undo cX7_undo 1 (some .int) rmX7_undo D cy ad [.ref h0] [FP h0 h1 h2 h3 h4 h5 h6 h7 h8 h9, TB cy h2 a1 a2 a3 v1, SU cy a2 a4 v2, HI h4 r1 vh, HR cy r1 ta vr] (Sum.elim (fun q => Sum.inl ((some (.int q.1)), [FP h0 h1 h2 h3 h4 h5 h6 h7 h8 h9, TB cy h2 a1 a2 a3 q.2.1, SU cy a2 a4 q.2.2.1, HI h4 r1 q.2.2.2, HR cy r1 ta vr])) (fun q => Sum.inr (q.1, [FP h0 h1 h2 h3 h4 h5 h6 h7 h8 h9, TB cy h2 a1 a2 a3 q.2.1, SU cy a2 a4 q.2.2.1, HI h4 r1 q.2.2.2, HR cy r1 ta vr])) q : xRes) := by
  refine xm_of (lv0 := [(0, .ref h0)]) (by decide) (Nat.le_of_ble_eq_true rfl) rfl ?_
  intro p e s m args below meth c A X hr hne
  have X : gK p s m args meth c A D cy ad cX7_undo 1 RX7 := X
  unfold f_X7_undo at hf
  refine g_aload_n X dX7_undo_0 0 rfl rfl ?_
  refine g_get X dX7_undo_1 ck_X7 0 0 3 rfl rfl (Nat.le_of_ble_eq_true rfl) lkf_X7_29 rfl ?_
  refine g_get X dX7_undo_4 ck_X0 3 0 2 rfl rfl (Nat.le_of_ble_eq_true rfl) lkf_X7_249 rfl ?_
  refine g_if_gt X 20 dX7_undo_7 (by decide) (fun c545 => ?_) (fun c545 => ?_)
  · have hf := opos c545 hf
    refine g_aload_n X dX7_undo_20 0 rfl rfl ?_
    refine g_get X dX7_undo_21 ck_X7 0 0 3 rfl rfl (Nat.le_of_ble_eq_true rfl) lkf_X7_29 rfl ?_
    refine g_aload_n X dX7_undo_24 0 rfl rfl ?_
    refine g_get X dX7_undo_25 ck_X7 0 0 1 rfl rfl (Nat.le_of_ble_eq_true rfl) lkf_X7_19 rfl ?_
    obtain ⟨q544, hq544, hf⟩ := obind hf
    refine g_callV (gs' := [FP h0 h1 h2 h3 h4 h5 h6 h7 h8 h9, TB cy h2 a1 a2 a3 q544.2.1, SU cy a2 a4 q544.2.2, HI h4 r1 q544.1, HR cy r1 ta vr]) (rest := []) X dX7_undo_28 (c_X0_takeBack l D cy ad h4 r1 ta h2 a1 a2 a3 a4 vh vr v1 v2 hq544) mf_X0_takeBack mv_X0_takeBack lkm_X7_253 ⟨(Nat.le_of_ble_eq_true rfl), (Nat.le_of_ble_eq_true rfl), (Nat.le_of_ble_eq_true rfl), (Nat.le_of_ble_eq_true rfl)⟩ 3 0 rfl rfl rfl rfl [3, 4, 1, 2, 0] _ (by decide : [3, 4, 1, 2, 0].Perm (List.range 5)) rfl (by decide : [3, 4, 1, 2, 0].Perm (List.range 5)) rfl (Nat.le_of_ble_eq_true rfl) rfl ?_
    refine g_aload_n X dX7_undo_31 0 rfl rfl ?_
    refine g_get X dX7_undo_32 ck_X7 0 0 3 rfl rfl (Nat.le_of_ble_eq_true rfl) lkf_X7_29 rfl ?_
    refine g_get X dX7_undo_35 ck_X0 3 0 2 rfl rfl (Nat.le_of_ble_eq_true rfl) lkf_X7_249 rfl ?_
    have hf := Option.some.inj hf
    subst hf
    exact g_xret (Nat.le_of_ble_eq_true rfl) (Nat.le_of_ble_eq_true rfl) (g_iret X hr dX7_undo_38)
  · have hf := oneg c545 hf
    have hf := Option.some.inj hf
    subst hf
    exact g_throwS X hne hfl 2 19 (by decide) rfl rfl dX7_undo_10 dX7_undo_13 dX7_undo_14 dX7_undo_16 dX7_undo_19 xw_2 ⟨(Nat.le_of_ble_eq_true rfl), (Nat.le_of_ble_eq_true rfl), (Nat.le_of_ble_eq_true rfl), (Nat.le_of_ble_eq_true rfl)⟩ ⟨(Nat.le_of_ble_eq_true rfl), (Nat.le_of_ble_eq_true rfl)⟩
abbrev rmX7_leaves : Room := ({ frames := 7, cells := 2, slots := 12, locals := 112 } : Room)
def f_X7_leaves_b9 (v1 : TBv) (v2 : Fn) (v3 : SCv) (v13 : TAv) : Option ((Int32 × SCv × TAv) ⊕ (Nat × SCv × TAv)) :=
  some (.inr (3, v3, v13))
set_option maxRecDepth 100000 in
set_option maxHeartbeats 4000000 in
theorem j_X7_leaves_b9 {p : Program} {l : Launch} {e : Env} {s : State} {m : MethodId} {args : Array Value} {below : List Frame} {meth : Method} {c : Code} {A : Nat → Prop} {D : va_G} {cy : Nat → ClassId} {ad : (Nat → Nat) × (Nat → Nat)} (X : gK p s m args meth c A D cy ad cX7_leaves 4 RX7) (hr : meth.sig.returnType = (some .int)) (hne : ∀ x ∈ c.exceptionTable.toList, False) (hfl : l.stackTraces = false) {h0 h1 h2 h3 h4 h5 h6 h7 h8 h9 a1 a2 a3 a4 : Nat} (v1 : TBv) (v2 : Fn) (v3 : SCv) (v13 : TAv) {q : (Int32 × SCv × TAv) ⊕ (Nat × SCv × TAv)} (hf : f_X7_leaves_b9 v1 v2 v3 v13 = some q) : GW p l e rmX7_leaves s m args below meth c A D 4 0 0 (vx_MQ below (xmQ D cy A (Sum.elim (fun q => Sum.inl ((some (.int q.1)), [FP h0 h1 h2 h3 h4 h5 h6 h7 h8 h9, TB cy h2 a1 a2 a3 v1, SU cy a2 a4 v2, SC a3 q.2.1, TA h7 q.2.2])) (fun q => Sum.inr (q.1, [FP h0 h1 h2 h3 h4 h5 h6 h7 h8 h9, TB cy h2 a1 a2 a3 v1, SU cy a2 a4 v2, SC a3 q.2.1, TA h7 q.2.2])) q : xRes)) (xmX D cy A (Sum.elim (fun q => Sum.inl ((some (.int q.1)), [FP h0 h1 h2 h3 h4 h5 h6 h7 h8 h9, TB cy h2 a1 a2 a3 v1, SU cy a2 a4 v2, SC a3 q.2.1, TA h7 q.2.2])) (fun q => Sum.inr (q.1, [FP h0 h1 h2 h3 h4 h5 h6 h7 h8 h9, TB cy h2 a1 a2 a3 v1, SU cy a2 a4 v2, SC a3 q.2.1, TA h7 q.2.2])) q : xRes)) args s 2 12 A) 9 [] [] [FP h0 h1 h2 h3 h4 h5 h6 h7 h8 h9, TB cy h2 a1 a2 a3 v1, SU cy a2 a4 v2, SC a3 v3, TA h7 v13] := by
  unfold f_X7_leaves_b9 at hf
  have hf := Option.some.inj hf
  subst hf
  exact g_throwSW X hne hfl 3 20 (by decide) rfl rfl dX7_leaves_9 dX7_leaves_12 dX7_leaves_13 dX7_leaves_16 dX7_leaves_19 xw_3 ⟨(Nat.le_of_ble_eq_true rfl), (Nat.le_of_ble_eq_true rfl), (Nat.le_of_ble_eq_true rfl), (Nat.le_of_ble_eq_true rfl)⟩ ⟨(Nat.le_of_ble_eq_true rfl), (Nat.le_of_ble_eq_true rfl)⟩
def f_X7_leaves (v1 : TBv) (v2 : Fn) (v3 : SCv) (v13 : TAv) (p1 : Int32) (p2 : Int32) (p3 : Int32) : Option ((Int32 × SCv × TAv) ⊕ (Nat × SCv × TAv)) :=
  if p3 < 0 then f_X7_leaves_b9 v1 v2 v3 v13 else if p3 < (3 : Int32) then (f_X7_refuseBadSets v1 p1 p2).bind (Sum.elim (fun q552 => (f_X4_foresee v1 v2 v3 v13 p1 p2).bind (fun q553 => (f_X5_of q553.2 p3).bind (fun q554 => some (.inl (q554, q553.1, q553.2))))) (fun q552 => some (.inr (q552, v3, v13)))) else f_X7_leaves_b9 v1 v2 v3 v13
set_option maxRecDepth 100000 in
set_option maxHeartbeats 4000000 in
theorem c_X7_leaves (l : Launch) (D : va_G) (cy : Nat → ClassId) (ad : (Nat → Nat) × (Nat → Nat)) (h0 : Nat) (h1 : Nat) (h2 : Nat) (h3 : Nat) (h4 : Nat) (h5 : Nat) (h6 : Nat) (h7 : Nat) (h8 : Nat) (h9 : Nat) (a1 : Nat) (a2 : Nat) (a3 : Nat) (a4 : Nat) (v1 : TBv) (v2 : Fn) (v3 : SCv) (v13 : TAv) (p1 : Int32) (p2 : Int32) (p3 : Int32) (hfl : l.stackTraces = false) {q : (Int32 × SCv × TAv) ⊕ (Nat × SCv × TAv)} (hf : f_X7_leaves v1 v2 v3 v13 p1 p2 p3 = some q) : XM l yX7_leaves cX7_leaves 4 (some .int) rmX7_leaves D cy ad [.ref h0, .int p1, .int p2, .int p3] [FP h0 h1 h2 h3 h4 h5 h6 h7 h8 h9, TB cy h2 a1 a2 a3 v1, SU cy a2 a4 v2, SC a3 v3, TA h7 v13] (Sum.elim (fun q => Sum.inl ((some (.int q.1)), [FP h0 h1 h2 h3 h4 h5 h6 h7 h8 h9, TB cy h2 a1 a2 a3 v1, SU cy a2 a4 v2, SC a3 q.2.1, TA h7 q.2.2])) (fun q => Sum.inr (q.1, [FP h0 h1 h2 h3 h4 h5 h6 h7 h8 h9, TB cy h2 a1 a2 a3 v1, SU cy a2 a4 v2, SC a3 q.2.1, TA h7 q.2.2])) q : xRes) := by
  refine xm_of (lv0 := [(0, .ref h0), (1, .int p1), (2, .int p2), (3, .int p3)]) (by decide) (Nat.le_of_ble_eq_true rfl) rfl ?_
  intro p e s m args below meth c A X hr hne
  have X : gK p s m args meth c A D cy ad cX7_leaves 4 RX7 := X
  unfold f_X7_leaves at hf
  refine g_iload_n X dX7_leaves_0 3 rfl rfl ?_
  refine g_if_lt X 9 dX7_leaves_1 (by decide) (fun c556 => ?_) (fun c556 => ?_)
  · have hf := opos c556 hf
    refine g_sub [] (lv' := []) rfl ?_
    exact j_X7_leaves_b9 X hr hne hfl v1 v2 v3 v13 hf
  · have hf := oneg c556 hf
    refine g_iload_n X dX7_leaves_4 3 rfl rfl ?_
    refine g_iconst X (3 : Int32) dX7_leaves_5 (by decide) ?_
    refine g_icmp_lt X 20 dX7_leaves_6 (by decide) (fun c555 => ?_) (fun c555 => ?_)
    · have hf := opos c555 hf
      refine g_aload_n X dX7_leaves_20 0 rfl rfl ?_
      refine g_iload_n X dX7_leaves_21 1 rfl rfl ?_
      refine g_iload_n X dX7_leaves_22 2 rfl rfl ?_
      obtain ⟨q552, hq552, hf⟩ := obind hf
      rcases q552 with q552 | q552
      · have hf := sinl hf
        refine g_xcallR (gs' := [FP h0 h1 h2 h3 h4 h5 h6 h7 h8 h9, TB cy h2 a1 a2 a3 v1, SU cy a2 a4 v2, SC a3 v3, TA h7 v13]) (rest := []) X dX7_leaves_23 (c_X7_refuseBadSets l D cy ad h0 h1 h2 h3 h4 h5 h6 h7 h8 h9 a1 a2 a3 v1 p1 p2 hfl hq552) mf_X7_refuseBadSets mv_X7_refuseBadSets lkm_X7_221 ⟨(Nat.le_of_ble_eq_true rfl), (Nat.le_of_ble_eq_true rfl), (Nat.le_of_ble_eq_true rfl), (Nat.le_of_ble_eq_true rfl)⟩ 0 0 rfl rfl rfl rfl [0, 1, 2, 3, 4] _ (by decide : [0, 1, 2, 3, 4].Perm (List.range 5)) rfl (by decide : [0, 1, 2, 3, 4].Perm (List.range 5)) rfl (Nat.le_of_ble_eq_true rfl) rfl ?_
        refine g_aload_n X dX7_leaves_26 0 rfl rfl ?_
        refine g_get X dX7_leaves_27 ck_X7 0 0 1 rfl rfl (Nat.le_of_ble_eq_true rfl) lkf_X7_19 rfl ?_
        refine g_iload_n X dX7_leaves_30 1 rfl rfl ?_
        refine g_iload_n X dX7_leaves_31 2 rfl rfl ?_
        refine g_aload_n X dX7_leaves_32 0 rfl rfl ?_
        refine g_get X dX7_leaves_33 ck_X7 0 0 6 rfl rfl (Nat.le_of_ble_eq_true rfl) lkf_X7_46 rfl ?_
        obtain ⟨q553, hq553, hf⟩ := obind hf
        refine g_callV (gs' := [FP h0 h1 h2 h3 h4 h5 h6 h7 h8 h9, TB cy h2 a1 a2 a3 v1, SU cy a2 a4 v2, SC a3 q553.1, TA h7 q553.2]) (rest := []) X dX7_leaves_36 (c_X4_foresee l D cy ad h2 a1 a2 a3 a4 h7 v1 v2 v3 v13 p1 p2 hq553) mf_X4_foresee mv_X4_foresee lkm_X7_258 ⟨(Nat.le_of_ble_eq_true rfl), (Nat.le_of_ble_eq_true rfl), (Nat.le_of_ble_eq_true rfl), (Nat.le_of_ble_eq_true rfl)⟩ 1 0 rfl rfl rfl rfl [1, 2, 3, 4, 0] _ (by decide : [1, 2, 3, 4, 0].Perm (List.range 5)) rfl (by decide : [1, 2, 3, 4, 0].Perm (List.range 5)) rfl (Nat.le_of_ble_eq_true rfl) rfl ?_
        refine g_aload_n X dX7_leaves_39 0 rfl rfl ?_
        refine g_get X dX7_leaves_40 ck_X7 0 0 6 rfl rfl (Nat.le_of_ble_eq_true rfl) lkf_X7_46 rfl ?_
        refine g_iload_n X dX7_leaves_43 3 rfl rfl ?_
        obtain ⟨q554, hq554, hf⟩ := obind hf
        refine g_callV (gs' := [FP h0 h1 h2 h3 h4 h5 h6 h7 h8 h9, TB cy h2 a1 a2 a3 v1, SU cy a2 a4 v2, SC a3 q553.1, TA h7 q553.2]) (rest := []) X dX7_leaves_44 (c_X5_of l D cy ad h7 q553.2 p3 hq554) mf_X5_of mv_X5_of lkm_X7_262 ⟨(Nat.le_of_ble_eq_true rfl), (Nat.le_of_ble_eq_true rfl), (Nat.le_of_ble_eq_true rfl), (Nat.le_of_ble_eq_true rfl)⟩ 4 0 rfl rfl rfl rfl [4, 0, 1, 2, 3] _ (by decide : [4, 0, 1, 2, 3].Perm (List.range 5)) rfl (by decide : [4, 0, 1, 2, 3].Perm (List.range 5)) rfl (Nat.le_of_ble_eq_true rfl) rfl ?_
        have hf := Option.some.inj hf
        subst hf
        exact g_xret (Nat.le_of_ble_eq_true rfl) (Nat.le_of_ble_eq_true rfl) (g_iret X hr dX7_leaves_47)
      · have hf := sinr hf
        have hf := Option.some.inj hf
        subst hf
        refine g_xcallT (gs' := [FP h0 h1 h2 h3 h4 h5 h6 h7 h8 h9, TB cy h2 a1 a2 a3 v1, SU cy a2 a4 v2, SC a3 v3, TA h7 v13]) (rest := []) X dX7_leaves_23 (c_X7_refuseBadSets l D cy ad h0 h1 h2 h3 h4 h5 h6 h7 h8 h9 a1 a2 a3 v1 p1 p2 hfl hq552) mf_X7_refuseBadSets mv_X7_refuseBadSets lkm_X7_221 ⟨(Nat.le_of_ble_eq_true rfl), (Nat.le_of_ble_eq_true rfl), (Nat.le_of_ble_eq_true rfl), (Nat.le_of_ble_eq_true rfl)⟩ 0 0 rfl rfl rfl rfl [0, 1, 2, 3, 4] _ (by decide : [0, 1, 2, 3, 4].Perm (List.range 5)) rfl (by decide : [0, 1, 2, 3, 4].Perm (List.range 5)) rfl (Nat.le_of_ble_eq_true rfl) rfl ?_
        exact g_xout X hne (Nat.le_of_ble_eq_true rfl) (Nat.le_of_ble_eq_true rfl)
    · have hf := oneg c555 hf
      refine g_sub [] (lv' := []) rfl ?_
      exact j_X7_leaves_b9 X hr hne hfl v1 v2 v3 v13 hf
abbrev rmX7_best : Room := ({ frames := 6, cells := 1, slots := 6, locals := 100 } : Room)
def f_X7_best_b10 (v1 : TBv) (v2 : Fn) (v3 : SCv) (v13 : TAv) (v14 : Fn) (v15 : Fn) : Option ((Int32 × SCv × TAv) ⊕ (Nat × SCv × TAv)) :=
  some (.inr (1, v3, v13))
set_option maxRecDepth 100000 in
set_option maxHeartbeats 4000000 in
theorem j_X7_best_b10 {p : Program} {l : Launch} {e : Env} {s : State} {m : MethodId} {args : Array Value} {below : List Frame} {meth : Method} {c : Code} {A : Nat → Prop} {D : va_G} {cy : Nat → ClassId} {ad : (Nat → Nat) × (Nat → Nat)} (X : gK p s m args meth c A D cy ad cX7_best 10 RX7) (hr : meth.sig.returnType = (some .int)) (hne : ∀ x ∈ c.exceptionTable.toList, False) (hfl : l.stackTraces = false) {h0 h1 h2 h3 h4 h5 h6 h7 h8 h9 a1 a2 a3 a4 : Nat} (v1 : TBv) (v2 : Fn) (v3 : SCv) (v13 : TAv) (v14 : Fn) (v15 : Fn) {q : (Int32 × SCv × TAv) ⊕ (Nat × SCv × TAv)} (hf : f_X7_best_b10 v1 v2 v3 v13 v14 v15 = some q) : GW p l e rmX7_best s m args below meth c A D 10 0 0 (vx_MQ below (xmQ D cy A (Sum.elim (fun q => Sum.inl ((some (.int q.1)), [FP h0 h1 h2 h3 h4 h5 h6 h7 h8 h9, TB cy h2 a1 a2 a3 v1, SU cy a2 a4 v2, SC a3 q.2.1, TA h7 q.2.2, AI cy 12 h8 v14, AI cy 66 h9 v15])) (fun q => Sum.inr (q.1, [FP h0 h1 h2 h3 h4 h5 h6 h7 h8 h9, TB cy h2 a1 a2 a3 v1, SU cy a2 a4 v2, SC a3 q.2.1, TA h7 q.2.2, AI cy 12 h8 v14, AI cy 66 h9 v15])) q : xRes)) (xmX D cy A (Sum.elim (fun q => Sum.inl ((some (.int q.1)), [FP h0 h1 h2 h3 h4 h5 h6 h7 h8 h9, TB cy h2 a1 a2 a3 v1, SU cy a2 a4 v2, SC a3 q.2.1, TA h7 q.2.2, AI cy 12 h8 v14, AI cy 66 h9 v15])) (fun q => Sum.inr (q.1, [FP h0 h1 h2 h3 h4 h5 h6 h7 h8 h9, TB cy h2 a1 a2 a3 v1, SU cy a2 a4 v2, SC a3 q.2.1, TA h7 q.2.2, AI cy 12 h8 v14, AI cy 66 h9 v15])) q : xRes)) args s 1 6 A) 10 [] [] [FP h0 h1 h2 h3 h4 h5 h6 h7 h8 h9, TB cy h2 a1 a2 a3 v1, SU cy a2 a4 v2, SC a3 v3, TA h7 v13, AI cy 12 h8 v14, AI cy 66 h9 v15] := by
  unfold f_X7_best_b10 at hf
  have hf := Option.some.inj hf
  subst hf
  exact g_throwSW X hne hfl 1 21 (by decide) rfl rfl dX7_best_10 dX7_best_13 dX7_best_14 dX7_best_17 dX7_best_20 xw_1 ⟨(Nat.le_of_ble_eq_true rfl), (Nat.le_of_ble_eq_true rfl), (Nat.le_of_ble_eq_true rfl), (Nat.le_of_ble_eq_true rfl)⟩ ⟨(Nat.le_of_ble_eq_true rfl), (Nat.le_of_ble_eq_true rfl)⟩
def f_X7_best_b30 (v1 : TBv) (v2 : Fn) (v3 : SCv) (v13 : TAv) (v14 : Fn) (v15 : Fn) : Option ((Int32 × SCv × TAv) ⊕ (Nat × SCv × TAv)) :=
  some (.inr (1, v3, v13))
set_option maxRecDepth 100000 in
set_option maxHeartbeats 4000000 in
theorem j_X7_best_b30 {p : Program} {l : Launch} {e : Env} {s : State} {m : MethodId} {args : Array Value} {below : List Frame} {meth : Method} {c : Code} {A : Nat → Prop} {D : va_G} {cy : Nat → ClassId} {ad : (Nat → Nat) × (Nat → Nat)} (X : gK p s m args meth c A D cy ad cX7_best 10 RX7) (hr : meth.sig.returnType = (some .int)) (hne : ∀ x ∈ c.exceptionTable.toList, False) (hfl : l.stackTraces = false) {h0 h1 h2 h3 h4 h5 h6 h7 h8 h9 a1 a2 a3 a4 : Nat} (v1 : TBv) (v2 : Fn) (v3 : SCv) (v13 : TAv) (v14 : Fn) (v15 : Fn) {q : (Int32 × SCv × TAv) ⊕ (Nat × SCv × TAv)} (hf : f_X7_best_b30 v1 v2 v3 v13 v14 v15 = some q) : GW p l e rmX7_best s m args below meth c A D 10 0 0 (vx_MQ below (xmQ D cy A (Sum.elim (fun q => Sum.inl ((some (.int q.1)), [FP h0 h1 h2 h3 h4 h5 h6 h7 h8 h9, TB cy h2 a1 a2 a3 v1, SU cy a2 a4 v2, SC a3 q.2.1, TA h7 q.2.2, AI cy 12 h8 v14, AI cy 66 h9 v15])) (fun q => Sum.inr (q.1, [FP h0 h1 h2 h3 h4 h5 h6 h7 h8 h9, TB cy h2 a1 a2 a3 v1, SU cy a2 a4 v2, SC a3 q.2.1, TA h7 q.2.2, AI cy 12 h8 v14, AI cy 66 h9 v15])) q : xRes)) (xmX D cy A (Sum.elim (fun q => Sum.inl ((some (.int q.1)), [FP h0 h1 h2 h3 h4 h5 h6 h7 h8 h9, TB cy h2 a1 a2 a3 v1, SU cy a2 a4 v2, SC a3 q.2.1, TA h7 q.2.2, AI cy 12 h8 v14, AI cy 66 h9 v15])) (fun q => Sum.inr (q.1, [FP h0 h1 h2 h3 h4 h5 h6 h7 h8 h9, TB cy h2 a1 a2 a3 v1, SU cy a2 a4 v2, SC a3 q.2.1, TA h7 q.2.2, AI cy 12 h8 v14, AI cy 66 h9 v15])) q : xRes)) args s 1 6 A) 30 [] [] [FP h0 h1 h2 h3 h4 h5 h6 h7 h8 h9, TB cy h2 a1 a2 a3 v1, SU cy a2 a4 v2, SC a3 v3, TA h7 v13, AI cy 12 h8 v14, AI cy 66 h9 v15] := by
  unfold f_X7_best_b30 at hf
  have hf := Option.some.inj hf
  subst hf
  exact g_throwSW X hne hfl 1 22 (by decide) rfl rfl dX7_best_30 dX7_best_33 dX7_best_34 dX7_best_37 dX7_best_40 xw_1 ⟨(Nat.le_of_ble_eq_true rfl), (Nat.le_of_ble_eq_true rfl), (Nat.le_of_ble_eq_true rfl), (Nat.le_of_ble_eq_true rfl)⟩ ⟨(Nat.le_of_ble_eq_true rfl), (Nat.le_of_ble_eq_true rfl)⟩
def f_X7_best_B100_b189 (v1 : TBv) (v2 : Fn) (v3 : SCv) (v13 : TAv) (v14 : Fn) (v15 : Fn) (x2 : Int32) (x4 : Int32) (x5 : Int32) (x6 : Int32) (x7 : Int32) (x8 : Int32) (x9 : Int32) : Option ((Int32 × Int32 × Int32 × Int32 × SCv × TAv) ⊕ ((Int32 × Int32 × Int32 × SCv × TAv))) :=
  some (.inl (x5, x6, x7, (x9 + (1 : Int32)), v3, v13))
set_option maxRecDepth 100000 in
set_option maxHeartbeats 4000000 in
theorem j_X7_best_B100_b189 {p : Program} {l : Launch} {e : Env} {s : State} {m : MethodId} {args : Array Value} {below : List Frame} {meth : Method} {c : Code} {A : Nat → Prop} {D : va_G} {cy : Nat → ClassId} {ad : (Nat → Nat) × (Nat → Nat)} {Q : State → Prop} (X : gK p s m args meth c A D cy ad cX7_best 10 RX7) (hr : meth.sig.returnType = (some .int)) (hne : ∀ x ∈ c.exceptionTable.toList, False) (hfl : l.stackTraces = false) {h0 h1 h2 h3 h4 h5 h6 h7 h8 h9 a1 a2 a3 a4 : Nat} (v1 : TBv) (v2 : Fn) (v3 : SCv) (v13 : TAv) (v14 : Fn) (v15 : Fn) (x2 : Int32) (x4 : Int32) (x5 : Int32) (x6 : Int32) (x7 : Int32) (x8 : Int32) (x9 : Int32) {q : (Int32 × Int32 × Int32 × Int32 × SCv × TAv) ⊕ ((Int32 × Int32 × Int32 × SCv × TAv))} (hf : f_X7_best_B100_b189 v1 v2 v3 v13 v14 v15 x2 x4 x5 x6 x7 x8 x9 = some q) (K1 : ∀ s' : Int32 × Int32 × Int32 × Int32 × SCv × TAv, q = .inl s' → GW p l e rmX7_best s m args below meth c A D 10 0 0 Q 100 [(0, .ref h0), (2, .int x2), (3, .ref h9), (4, .int x4), (5, .int s'.1), (6, .int s'.2.1), (7, .int s'.2.2.1), (8, .int x8), (9, .int s'.2.2.2.1)] [] [FP h0 h1 h2 h3 h4 h5 h6 h7 h8 h9, TB cy h2 a1 a2 a3 v1, SU cy a2 a4 v2, SC a3 (s'.2.2.2.2.1.1, s'.2.2.2.2.1.2.1, s'.2.2.2.2.1.2.2.1, s'.2.2.2.2.1.2.2.2.1, s'.2.2.2.2.1.2.2.2.2.1, s'.2.2.2.2.1.2.2.2.2.2), TA h7 (s'.2.2.2.2.2.1, s'.2.2.2.2.2.2.1, s'.2.2.2.2.2.2.2), AI cy 12 h8 v14, AI cy 66 h9 v15]) (K2 : ∀ e' : Int32 × Int32 × Int32 × SCv × TAv, q = .inr (e') → GW p l e rmX7_best s m args below meth c A D 10 0 0 Q 195 [(0, .ref h0), (2, .int x2), (3, .ref h9), (4, .int x4), (5, .int e'.1), (6, .int e'.2.1), (7, .int e'.2.2.1), (8, .int x8)] [] [FP h0 h1 h2 h3 h4 h5 h6 h7 h8 h9, TB cy h2 a1 a2 a3 v1, SU cy a2 a4 v2, SC a3 (e'.2.2.2.1.1, e'.2.2.2.1.2.1, e'.2.2.2.1.2.2.1, e'.2.2.2.1.2.2.2.1, e'.2.2.2.1.2.2.2.2.1, e'.2.2.2.1.2.2.2.2.2), TA h7 (e'.2.2.2.2.1, e'.2.2.2.2.2.1, e'.2.2.2.2.2.2), AI cy 12 h8 v14, AI cy 66 h9 v15]) : GW p l e rmX7_best s m args below meth c A D 10 0 0 Q 189 [(0, .ref h0), (2, .int x2), (3, .ref h9), (4, .int x4), (5, .int x5), (6, .int x6), (7, .int x7), (8, .int x8), (9, .int x9)] [] [FP h0 h1 h2 h3 h4 h5 h6 h7 h8 h9, TB cy h2 a1 a2 a3 v1, SU cy a2 a4 v2, SC a3 v3, TA h7 v13, AI cy 12 h8 v14, AI cy 66 h9 v15] := by
  unfold f_X7_best_B100_b189 at hf
  refine g_iinc (lv' := [(0, .ref h0), (2, .int x2), (3, .ref h9), (4, .int x4), (5, .int x5), (6, .int x6), (7, .int x7), (8, .int x8), (9, .int (x9 + (1 : Int32)))]) (v := (1 : Int32)) X dX7_best_189 8 rfl (by decide) [1, 2, 3, 4, 5, 6, 7, 8, 0] (Nat.le_of_ble_eq_true rfl) rfl ?_
  refine g_goto X 100 dX7_best_192 (by decide) ?_
  exact K1 (x5, x6, x7, (x9 + (1 : Int32)), v3, v13) (Option.some.inj hf).symm
def f_X7_best_B100_b168 (v1 : TBv) (v2 : Fn) (v3 : SCv) (v13 : TAv) (v14 : Fn) (v15 : Fn) (x2 : Int32) (x4 : Int32) (x8 : Int32) (x9 : Int32) : Option ((Int32 × Int32 × Int32 × Int32 × SCv × TAv) ⊕ ((Int32 × Int32 × Int32 × SCv × TAv))) :=
  (f_X5_worst v13).bind (fun q576 => if x8 < 0 ∨ 66 ≤ x8.toNatClampNeg then none else if x9 < 0 ∨ 66 ≤ x9.toNatClampNeg then none else f_X7_best_B100_b189 v1 v2 v3 v13 v14 v15 x2 x4 (v15 x8.toNatClampNeg) (v15 x9.toNatClampNeg) q576 x8 x9)
set_option maxRecDepth 100000 in
set_option maxHeartbeats 4000000 in
theorem j_X7_best_B100_b168 {p : Program} {l : Launch} {e : Env} {s : State} {m : MethodId} {args : Array Value} {below : List Frame} {meth : Method} {c : Code} {A : Nat → Prop} {D : va_G} {cy : Nat → ClassId} {ad : (Nat → Nat) × (Nat → Nat)} {Q : State → Prop} (X : gK p s m args meth c A D cy ad cX7_best 10 RX7) (hr : meth.sig.returnType = (some .int)) (hne : ∀ x ∈ c.exceptionTable.toList, False) (hfl : l.stackTraces = false) {h0 h1 h2 h3 h4 h5 h6 h7 h8 h9 a1 a2 a3 a4 : Nat} (v1 : TBv) (v2 : Fn) (v3 : SCv) (v13 : TAv) (v14 : Fn) (v15 : Fn) (x2 : Int32) (x4 : Int32) (x8 : Int32) (x9 : Int32) {q : (Int32 × Int32 × Int32 × Int32 × SCv × TAv) ⊕ ((Int32 × Int32 × Int32 × SCv × TAv))} (hf : f_X7_best_B100_b168 v1 v2 v3 v13 v14 v15 x2 x4 x8 x9 = some q) (K1 : ∀ s' : Int32 × Int32 × Int32 × Int32 × SCv × TAv, q = .inl s' → GW p l e rmX7_best s m args below meth c A D 10 0 0 Q 100 [(0, .ref h0), (2, .int x2), (3, .ref h9), (4, .int x4), (5, .int s'.1), (6, .int s'.2.1), (7, .int s'.2.2.1), (8, .int x8), (9, .int s'.2.2.2.1)] [] [FP h0 h1 h2 h3 h4 h5 h6 h7 h8 h9, TB cy h2 a1 a2 a3 v1, SU cy a2 a4 v2, SC a3 (s'.2.2.2.2.1.1, s'.2.2.2.2.1.2.1, s'.2.2.2.2.1.2.2.1, s'.2.2.2.2.1.2.2.2.1, s'.2.2.2.2.1.2.2.2.2.1, s'.2.2.2.2.1.2.2.2.2.2), TA h7 (s'.2.2.2.2.2.1, s'.2.2.2.2.2.2.1, s'.2.2.2.2.2.2.2), AI cy 12 h8 v14, AI cy 66 h9 v15]) (K2 : ∀ e' : Int32 × Int32 × Int32 × SCv × TAv, q = .inr (e') → GW p l e rmX7_best s m args below meth c A D 10 0 0 Q 195 [(0, .ref h0), (2, .int x2), (3, .ref h9), (4, .int x4), (5, .int e'.1), (6, .int e'.2.1), (7, .int e'.2.2.1), (8, .int x8)] [] [FP h0 h1 h2 h3 h4 h5 h6 h7 h8 h9, TB cy h2 a1 a2 a3 v1, SU cy a2 a4 v2, SC a3 (e'.2.2.2.1.1, e'.2.2.2.1.2.1, e'.2.2.2.1.2.2.1, e'.2.2.2.1.2.2.2.1, e'.2.2.2.1.2.2.2.2.1, e'.2.2.2.1.2.2.2.2.2), TA h7 (e'.2.2.2.2.1, e'.2.2.2.2.2.1, e'.2.2.2.2.2.2), AI cy 12 h8 v14, AI cy 66 h9 v15]) : GW p l e rmX7_best s m args below meth c A D 10 0 0 Q 168 [(0, .ref h0), (2, .int x2), (3, .ref h9), (4, .int x4), (8, .int x8), (9, .int x9)] [] [FP h0 h1 h2 h3 h4 h5 h6 h7 h8 h9, TB cy h2 a1 a2 a3 v1, SU cy a2 a4 v2, SC a3 v3, TA h7 v13, AI cy 12 h8 v14, AI cy 66 h9 v15] := by
  unfold f_X7_best_B100_b168 at hf
  refine g_aload_n X dX7_best_168 0 rfl rfl ?_
  refine g_get X dX7_best_169 ck_X7 0 0 6 rfl rfl (Nat.le_of_ble_eq_true rfl) lkf_X7_46 rfl ?_
  obtain ⟨q576, hq576, hf⟩ := obind hf
  refine g_callV (gs' := [FP h0 h1 h2 h3 h4 h5 h6 h7 h8 h9, TB cy h2 a1 a2 a3 v1, SU cy a2 a4 v2, SC a3 v3, TA h7 v13, AI cy 12 h8 v14, AI cy 66 h9 v15]) (rest := []) X dX7_best_172 (c_X5_worst l D cy ad h7 v13 hq576) mf_X5_worst mv_X5_worst lkm_X7_269 ⟨(Nat.le_of_ble_eq_true rfl), (Nat.le_of_ble_eq_true rfl), (Nat.le_of_ble_eq_true rfl), (Nat.le_of_ble_eq_true rfl)⟩ 4 0 rfl rfl rfl rfl [4, 0, 1, 2, 3, 5, 6] _ (by decide : [4, 0, 1, 2, 3, 5, 6].Perm (List.range 7)) rfl (by decide : [4, 0, 1, 2, 3, 5, 6].Perm (List.range 7)) rfl (Nat.le_of_ble_eq_true rfl) rfl ?_
  refine g_istore (lv' := [(0, .ref h0), (2, .int x2), (3, .ref h9), (4, .int x4), (7, .int q576), (8, .int x8), (9, .int x9)]) X dX7_best_175 [1, 2, 3, 4, 0, 5, 6] (Nat.le_of_ble_eq_true rfl) rfl ?_
  refine g_aload_n X dX7_best_177 2 rfl rfl ?_
  refine g_iload X dX7_best_178 5 rfl ?_
  obtain ⟨n577, hf⟩ := oguard hf
  refine g_iaload X dX7_best_180 6 0 rfl rfl n577 ?_
  refine g_istore (lv' := [(0, .ref h0), (2, .int x2), (3, .ref h9), (4, .int x4), (5, .int (v15 x8.toNatClampNeg)), (7, .int q576), (8, .int x8), (9, .int x9)]) X dX7_best_181 [1, 2, 3, 4, 0, 5, 6, 7] (Nat.le_of_ble_eq_true rfl) rfl ?_
  refine g_aload_n X dX7_best_183 2 rfl rfl ?_
  refine g_iload X dX7_best_184 7 rfl ?_
  obtain ⟨n578, hf⟩ := oguard hf
  refine g_iaload X dX7_best_186 6 0 rfl rfl n578 ?_
  refine g_istore (lv' := [(0, .ref h0), (2, .int x2), (3, .ref h9), (4, .int x4), (5, .int (v15 x8.toNatClampNeg)), (6, .int (v15 x9.toNatClampNeg)), (7, .int q576), (8, .int x8), (9, .int x9)]) X dX7_best_187 [1, 2, 3, 4, 5, 0, 6, 7, 8] (Nat.le_of_ble_eq_true rfl) rfl ?_
  exact j_X7_best_B100_b189 X hr hne hfl v1 v2 v3 v13 v14 v15 x2 x4 (v15 x8.toNatClampNeg) (v15 x9.toNatClampNeg) q576 x8 x9 hf K1 K2
def f_X7_best_B100 (v1 : TBv) (v2 : Fn) (v14 : Fn) (v15 : Fn) (x2 : Int32) (x4 : Int32) (x8 : Int32) (z : Int32 × Int32 × Int32 × Int32 × SCv × TAv) : Option ((Int32 × Int32 × Int32 × Int32 × SCv × TAv) ⊕ ((Int32 × Int32 × Int32 × SCv × TAv))) :=
  if (66 : Int32) ≤ z.2.2.2.1 then some (.inr ((z.1, z.2.1, z.2.2.1, z.2.2.2.2.1, z.2.2.2.2.2))) else if z.2.2.2.1 < 0 ∨ 66 ≤ z.2.2.2.1.toNatClampNeg then none else if x4 ≤ (v15 z.2.2.2.1.toNatClampNeg) then some (.inr ((z.1, z.2.1, z.2.2.1, z.2.2.2.2.1, z.2.2.2.2.2))) else if x8 < 0 ∨ 66 ≤ x8.toNatClampNeg then none else if z.2.2.2.1 < 0 ∨ 66 ≤ z.2.2.2.1.toNatClampNeg then none else if ((v15 x8.toNatClampNeg) &&& (v15 z.2.2.2.1.toNatClampNeg)) = 0 then if x8 < 0 ∨ 66 ≤ x8.toNatClampNeg then none else if z.2.2.2.1 < 0 ∨ 66 ≤ z.2.2.2.1.toNatClampNeg then none else (f_X4_foresee v1 v2 z.2.2.2.2.1 z.2.2.2.2.2 (v15 x8.toNatClampNeg) (v15 z.2.2.2.1.toNatClampNeg)).bind (fun q575 => if z.2.2.1 = (-1 : Int32) then f_X7_best_B100_b168 v1 v2 q575.1 q575.2 v14 v15 x2 x4 x8 z.2.2.2.1 else (f_X5_worst q575.2).bind (fun q579 => if z.2.2.1 ≤ q579 then f_X7_best_B100_b189 v1 v2 q575.1 q575.2 v14 v15 x2 x4 z.1 z.2.1 z.2.2.1 x8 z.2.2.2.1 else f_X7_best_B100_b168 v1 v2 q575.1 q575.2 v14 v15 x2 x4 x8 z.2.2.2.1)) else f_X7_best_B100_b189 v1 v2 z.2.2.2.2.1 z.2.2.2.2.2 v14 v15 x2 x4 z.1 z.2.1 z.2.2.1 x8 z.2.2.2.1
set_option maxRecDepth 100000 in
set_option maxHeartbeats 4000000 in
theorem b_X7_best_B100 {p : Program} {l : Launch} {e : Env} {s : State} {m : MethodId} {args : Array Value} {below : List Frame} {meth : Method} {c : Code} {A : Nat → Prop} {D : va_G} {cy : Nat → ClassId} {ad : (Nat → Nat) × (Nat → Nat)} {Q : State → Prop} (X : gK p s m args meth c A D cy ad cX7_best 10 RX7) (hr : meth.sig.returnType = (some .int)) (hne : ∀ x ∈ c.exceptionTable.toList, False) (hfl : l.stackTraces = false) {h0 h1 h2 h3 h4 h5 h6 h7 h8 h9 a1 a2 a3 a4 : Nat} (v1 : TBv) (v2 : Fn) (v14 : Fn) (v15 : Fn) (x2 : Int32) (x4 : Int32) (x8 : Int32) (z : Int32 × Int32 × Int32 × Int32 × SCv × TAv) {q : (Int32 × Int32 × Int32 × Int32 × SCv × TAv) ⊕ ((Int32 × Int32 × Int32 × SCv × TAv))} (hf : f_X7_best_B100 v1 v2 v14 v15 x2 x4 x8 z = some q) (K1 : ∀ s' : Int32 × Int32 × Int32 × Int32 × SCv × TAv, q = .inl s' → GW p l e rmX7_best s m args below meth c A D 10 0 0 Q 100 [(0, .ref h0), (2, .int x2), (3, .ref h9), (4, .int x4), (5, .int s'.1), (6, .int s'.2.1), (7, .int s'.2.2.1), (8, .int x8), (9, .int s'.2.2.2.1)] [] [FP h0 h1 h2 h3 h4 h5 h6 h7 h8 h9, TB cy h2 a1 a2 a3 v1, SU cy a2 a4 v2, SC a3 (s'.2.2.2.2.1.1, s'.2.2.2.2.1.2.1, s'.2.2.2.2.1.2.2.1, s'.2.2.2.2.1.2.2.2.1, s'.2.2.2.2.1.2.2.2.2.1, s'.2.2.2.2.1.2.2.2.2.2), TA h7 (s'.2.2.2.2.2.1, s'.2.2.2.2.2.2.1, s'.2.2.2.2.2.2.2), AI cy 12 h8 v14, AI cy 66 h9 v15]) (K2 : ∀ e' : Int32 × Int32 × Int32 × SCv × TAv, q = .inr (e') → GW p l e rmX7_best s m args below meth c A D 10 0 0 Q 195 [(0, .ref h0), (2, .int x2), (3, .ref h9), (4, .int x4), (5, .int e'.1), (6, .int e'.2.1), (7, .int e'.2.2.1), (8, .int x8)] [] [FP h0 h1 h2 h3 h4 h5 h6 h7 h8 h9, TB cy h2 a1 a2 a3 v1, SU cy a2 a4 v2, SC a3 (e'.2.2.2.1.1, e'.2.2.2.1.2.1, e'.2.2.2.1.2.2.1, e'.2.2.2.1.2.2.2.1, e'.2.2.2.1.2.2.2.2.1, e'.2.2.2.1.2.2.2.2.2), TA h7 (e'.2.2.2.2.1, e'.2.2.2.2.2.1, e'.2.2.2.2.2.2), AI cy 12 h8 v14, AI cy 66 h9 v15]) : GW p l e rmX7_best s m args below meth c A D 10 0 0 Q 100 [(0, .ref h0), (2, .int x2), (3, .ref h9), (4, .int x4), (5, .int z.1), (6, .int z.2.1), (7, .int z.2.2.1), (8, .int x8), (9, .int z.2.2.2.1)] [] [FP h0 h1 h2 h3 h4 h5 h6 h7 h8 h9, TB cy h2 a1 a2 a3 v1, SU cy a2 a4 v2, SC a3 z.2.2.2.2.1, TA h7 z.2.2.2.2.2, AI cy 12 h8 v14, AI cy 66 h9 v15] := by
  unfold f_X7_best_B100 at hf
  refine g_iload X dX7_best_100 8 rfl ?_
  refine g_aload_n X dX7_best_102 2 rfl rfl ?_
  refine g_alen0 (v := (66 : Int32)) X dX7_best_103 6 0 rfl rfl (by decide : Int32.ofNat 66 = (66 : Int32)) ?_
  refine g_icmp_ge X 195 dX7_best_104 (by decide) (fun c584 => ?_) (fun c584 => ?_)
  · have hf := opos c584 hf
    refine g_sub [0, 1, 2, 3, 4, 5, 6, 7] (lv' := [(0, .ref h0), (2, .int x2), (3, .ref h9), (4, .int x4), (5, .int z.1), (6, .int z.2.1), (7, .int z.2.2.1), (8, .int x8)]) rfl ?_
    exact K2 (z.1, z.2.1, z.2.2.1, z.2.2.2.2.1, z.2.2.2.2.2) (Option.some.inj hf).symm
  · have hf := oneg c584 hf
    refine g_aload_n X dX7_best_107 2 rfl rfl ?_
    refine g_iload X dX7_best_108 8 rfl ?_
    obtain ⟨n570, hf⟩ := oguard hf
    refine g_iaload X dX7_best_110 6 0 rfl rfl n570 ?_
    refine g_iload X dX7_best_111 3 rfl ?_
    refine g_icmp_ge X 195 dX7_best_113 (by decide) (fun c583 => ?_) (fun c583 => ?_)
    · have hf := opos c583 hf
      refine g_sub [0, 1, 2, 3, 4, 5, 6, 7] (lv' := [(0, .ref h0), (2, .int x2), (3, .ref h9), (4, .int x4), (5, .int z.1), (6, .int z.2.1), (7, .int z.2.2.1), (8, .int x8)]) rfl ?_
      exact K2 (z.1, z.2.1, z.2.2.1, z.2.2.2.2.1, z.2.2.2.2.2) (Option.some.inj hf).symm
    · have hf := oneg c583 hf
      refine g_aload_n X dX7_best_116 2 rfl rfl ?_
      refine g_iload X dX7_best_117 7 rfl ?_
      obtain ⟨n571, hf⟩ := oguard hf
      refine g_iaload X dX7_best_119 6 0 rfl rfl n571 ?_
      refine g_aload_n X dX7_best_120 2 rfl rfl ?_
      refine g_iload X dX7_best_121 8 rfl ?_
      obtain ⟨n572, hf⟩ := oguard hf
      refine g_iaload X dX7_best_123 6 0 rfl rfl n572 ?_
      refine g_iand X dX7_best_124 ?_
      refine g_if_eq X 131 dX7_best_125 (by decide) (fun c582 => ?_) (fun c582 => ?_)
      · have hf := opos c582 hf
        refine g_aload_n X dX7_best_131 0 rfl rfl ?_
        refine g_get X dX7_best_132 ck_X7 0 0 1 rfl rfl (Nat.le_of_ble_eq_true rfl) lkf_X7_19 rfl ?_
        refine g_aload_n X dX7_best_135 2 rfl rfl ?_
        refine g_iload X dX7_best_136 7 rfl ?_
        obtain ⟨n573, hf⟩ := oguard hf
        refine g_iaload X dX7_best_138 6 0 rfl rfl n573 ?_
        refine g_aload_n X dX7_best_139 2 rfl rfl ?_
        refine g_iload X dX7_best_140 8 rfl ?_
        obtain ⟨n574, hf⟩ := oguard hf
        refine g_iaload X dX7_best_142 6 0 rfl rfl n574 ?_
        refine g_aload_n X dX7_best_143 0 rfl rfl ?_
        refine g_get X dX7_best_144 ck_X7 0 0 6 rfl rfl (Nat.le_of_ble_eq_true rfl) lkf_X7_46 rfl ?_
        obtain ⟨q575, hq575, hf⟩ := obind hf
        refine g_callV (gs' := [FP h0 h1 h2 h3 h4 h5 h6 h7 h8 h9, TB cy h2 a1 a2 a3 v1, SU cy a2 a4 v2, SC a3 q575.1, TA h7 q575.2, AI cy 12 h8 v14, AI cy 66 h9 v15]) (rest := []) X dX7_best_147 (c_X4_foresee l D cy ad h2 a1 a2 a3 a4 h7 v1 v2 z.2.2.2.2.1 z.2.2.2.2.2 (v15 x8.toNatClampNeg) (v15 z.2.2.2.1.toNatClampNeg) hq575) mf_X4_foresee mv_X4_foresee lkm_X7_258 ⟨(Nat.le_of_ble_eq_true rfl), (Nat.le_of_ble_eq_true rfl), (Nat.le_of_ble_eq_true rfl), (Nat.le_of_ble_eq_true rfl)⟩ 1 0 rfl rfl rfl rfl [1, 2, 3, 4, 0, 5, 6] _ (by decide : [1, 2, 3, 4, 0, 5, 6].Perm (List.range 7)) rfl (by decide : [1, 2, 3, 4, 0, 5, 6].Perm (List.range 7)) rfl (Nat.le_of_ble_eq_true rfl) rfl ?_
        refine g_iload X dX7_best_150 6 rfl ?_
        refine g_iconst X (-1 : Int32) dX7_best_152 (by decide) ?_
        refine g_icmp_eq X 168 dX7_best_153 (by decide) (fun c581 => ?_) (fun c581 => ?_)
        · have hf := opos c581 hf
          refine g_sub [0, 1, 2, 3, 7, 8] (lv' := [(0, .ref h0), (2, .int x2), (3, .ref h9), (4, .int x4), (8, .int x8), (9, .int z.2.2.2.1)]) rfl ?_
          exact j_X7_best_B100_b168 X hr hne hfl v1 v2 q575.1 q575.2 v14 v15 x2 x4 x8 z.2.2.2.1 hf K1 K2
        · have hf := oneg c581 hf
          refine g_aload_n X dX7_best_156 0 rfl rfl ?_
          refine g_get X dX7_best_157 ck_X7 0 0 6 rfl rfl (Nat.le_of_ble_eq_true rfl) lkf_X7_46 rfl ?_
          obtain ⟨q579, hq579, hf⟩ := obind hf
          refine g_callV (gs' := [FP h0 h1 h2 h3 h4 h5 h6 h7 h8 h9, TB cy h2 a1 a2 a3 v1, SU cy a2 a4 v2, SC a3 q575.1, TA h7 q575.2, AI cy 12 h8 v14, AI cy 66 h9 v15]) (rest := []) X dX7_best_160 (c_X5_worst l D cy ad h7 q575.2 hq579) mf_X5_worst mv_X5_worst lkm_X7_269 ⟨(Nat.le_of_ble_eq_true rfl), (Nat.le_of_ble_eq_true rfl), (Nat.le_of_ble_eq_true rfl), (Nat.le_of_ble_eq_true rfl)⟩ 4 0 rfl rfl rfl rfl [4, 0, 1, 2, 3, 5, 6] _ (by decide : [4, 0, 1, 2, 3, 5, 6].Perm (List.range 7)) rfl (by decide : [4, 0, 1, 2, 3, 5, 6].Perm (List.range 7)) rfl (Nat.le_of_ble_eq_true rfl) rfl ?_
          refine g_iload X dX7_best_163 6 rfl ?_
          refine g_icmp_ge X 189 dX7_best_165 (by decide) (fun c580 => ?_) (fun c580 => ?_)
          · have hf := opos c580 hf
            exact j_X7_best_B100_b189 X hr hne hfl v1 v2 q575.1 q575.2 v14 v15 x2 x4 z.1 z.2.1 z.2.2.1 x8 z.2.2.2.1 hf K1 K2
          · have hf := oneg c580 hf
            refine g_sub [0, 1, 2, 3, 7, 8] (lv' := [(0, .ref h0), (2, .int x2), (3, .ref h9), (4, .int x4), (8, .int x8), (9, .int z.2.2.2.1)]) rfl ?_
            exact j_X7_best_B100_b168 X hr hne hfl v1 v2 q575.1 q575.2 v14 v15 x2 x4 x8 z.2.2.2.1 hf K1 K2
      · have hf := oneg c582 hf
        refine g_goto X 189 dX7_best_128 (by decide) ?_
        exact j_X7_best_B100_b189 X hr hne hfl v1 v2 z.2.2.2.2.1 z.2.2.2.2.2 v14 v15 x2 x4 z.1 z.2.1 z.2.2.1 x8 z.2.2.2.1 hf K1 K2
set_option maxRecDepth 100000 in
set_option maxHeartbeats 4000000 in
theorem w_X7_best_B100 {p : Program} {l : Launch} {e : Env} {s : State} {m : MethodId} {args : Array Value} {below : List Frame} {meth : Method} {c : Code} {A : Nat → Prop} {D : va_G} {cy : Nat → ClassId} {ad : (Nat → Nat) × (Nat → Nat)} {Q : State → Prop} (X : gK p s m args meth c A D cy ad cX7_best 10 RX7) (hr : meth.sig.returnType = (some .int)) (hne : ∀ x ∈ c.exceptionTable.toList, False) (hfl : l.stackTraces = false) {h0 h1 h2 h3 h4 h5 h6 h7 h8 h9 a1 a2 a3 a4 : Nat} (v1 : TBv) (v2 : Fn) (v14 : Fn) (v15 : Fn) (x2 : Int32) (x4 : Int32) (x8 : Int32) {n : Nat} {z : Int32 × Int32 × Int32 × Int32 × SCv × TAv} {q : (Int32 × Int32 × Int32 × SCv × TAv)} (hf : itl (f_X7_best_B100 v1 v2 v14 v15 x2 x4 x8) n z = some q) (K2 : GW p l e rmX7_best s m args below meth c A D 10 0 0 Q 195 [(0, .ref h0), (2, .int x2), (3, .ref h9), (4, .int x4), (5, .int q.1), (6, .int q.2.1), (7, .int q.2.2.1), (8, .int x8)] [] [FP h0 h1 h2 h3 h4 h5 h6 h7 h8 h9, TB cy h2 a1 a2 a3 v1, SU cy a2 a4 v2, SC a3 q.2.2.2.1, TA h7 q.2.2.2.2, AI cy 12 h8 v14, AI cy 66 h9 v15]) : GW p l e rmX7_best s m args below meth c A D 10 0 0 Q 100 [(0, .ref h0), (2, .int x2), (3, .ref h9), (4, .int x4), (5, .int z.1), (6, .int z.2.1), (7, .int z.2.2.1), (8, .int x8), (9, .int z.2.2.2.1)] [] [FP h0 h1 h2 h3 h4 h5 h6 h7 h8 h9, TB cy h2 a1 a2 a3 v1, SU cy a2 a4 v2, SC a3 z.2.2.2.2.1, TA h7 z.2.2.2.2.2, AI cy 12 h8 v14, AI cy 66 h9 v15] :=
  itl_ind (f := f_X7_best_B100 v1 v2 v14 v15 x2 x4 x8) (I := fun z => GW p l e rmX7_best s m args below meth c A D 10 0 0 Q 100 [(0, .ref h0), (2, .int x2), (3, .ref h9), (4, .int x4), (5, .int z.1), (6, .int z.2.1), (7, .int z.2.2.1), (8, .int x8), (9, .int z.2.2.2.1)] [] [FP h0 h1 h2 h3 h4 h5 h6 h7 h8 h9, TB cy h2 a1 a2 a3 v1, SU cy a2 a4 v2, SC a3 z.2.2.2.2.1, TA h7 z.2.2.2.2.2, AI cy 12 h8 v14, AI cy 66 h9 v15]) (J := (fun q => GW p l e rmX7_best s m args below meth c A D 10 0 0 Q 195 [(0, .ref h0), (2, .int x2), (3, .ref h9), (4, .int x4), (5, .int q.1), (6, .int q.2.1), (7, .int q.2.2.1), (8, .int x8)] [] [FP h0 h1 h2 h3 h4 h5 h6 h7 h8 h9, TB cy h2 a1 a2 a3 v1, SU cy a2 a4 v2, SC a3 q.2.2.2.1, TA h7 q.2.2.2.2, AI cy 12 h8 v14, AI cy 66 h9 v15])) (fun z x h k1 k2 => b_X7_best_B100 X hr hne hfl v1 v2 v14 v15 x2 x4 x8 z h (fun s' hs => k1 s' hs) (fun e' he => k2 e' he)) n z q hf K2
def f_X7_best_B81_b195 (v1 : TBv) (v2 : Fn) (v3 : SCv) (v13 : TAv) (v14 : Fn) (v15 : Fn) (x2 : Int32) (x4 : Int32) (x5 : Int32) (x6 : Int32) (x7 : Int32) (x8 : Int32) : Option ((Int32 × Int32 × Int32 × Int32 × SCv × TAv) ⊕ ((Int32 × Int32 × Int32 × SCv × TAv))) :=
  some (.inl (x5, x6, x7, (x8 + (1 : Int32)), v3, v13))
set_option maxRecDepth 100000 in
set_option maxHeartbeats 4000000 in
theorem j_X7_best_B81_b195 {p : Program} {l : Launch} {e : Env} {s : State} {m : MethodId} {args : Array Value} {below : List Frame} {meth : Method} {c : Code} {A : Nat → Prop} {D : va_G} {cy : Nat → ClassId} {ad : (Nat → Nat) × (Nat → Nat)} {Q : State → Prop} (X : gK p s m args meth c A D cy ad cX7_best 10 RX7) (hr : meth.sig.returnType = (some .int)) (hne : ∀ x ∈ c.exceptionTable.toList, False) (hfl : l.stackTraces = false) {h0 h1 h2 h3 h4 h5 h6 h7 h8 h9 a1 a2 a3 a4 : Nat} (v1 : TBv) (v2 : Fn) (v3 : SCv) (v13 : TAv) (v14 : Fn) (v15 : Fn) (x2 : Int32) (x4 : Int32) (x5 : Int32) (x6 : Int32) (x7 : Int32) (x8 : Int32) {q : (Int32 × Int32 × Int32 × Int32 × SCv × TAv) ⊕ ((Int32 × Int32 × Int32 × SCv × TAv))} (hf : f_X7_best_B81_b195 v1 v2 v3 v13 v14 v15 x2 x4 x5 x6 x7 x8 = some q) (K1 : ∀ s' : Int32 × Int32 × Int32 × Int32 × SCv × TAv, q = .inl s' → GW p l e rmX7_best s m args below meth c A D 10 0 0 Q 81 [(0, .ref h0), (2, .int x2), (3, .ref h9), (4, .int x4), (5, .int s'.1), (6, .int s'.2.1), (7, .int s'.2.2.1), (8, .int s'.2.2.2.1)] [] [FP h0 h1 h2 h3 h4 h5 h6 h7 h8 h9, TB cy h2 a1 a2 a3 v1, SU cy a2 a4 v2, SC a3 (s'.2.2.2.2.1.1, s'.2.2.2.2.1.2.1, s'.2.2.2.2.1.2.2.1, s'.2.2.2.2.1.2.2.2.1, s'.2.2.2.2.1.2.2.2.2.1, s'.2.2.2.2.1.2.2.2.2.2), TA h7 (s'.2.2.2.2.2.1, s'.2.2.2.2.2.2.1, s'.2.2.2.2.2.2.2), AI cy 12 h8 v14, AI cy 66 h9 v15]) (K2 : ∀ e' : Int32 × Int32 × Int32 × SCv × TAv, q = .inr (e') → GW p l e rmX7_best s m args below meth c A D 10 0 0 Q 201 [(2, .int x2), (5, .int e'.1), (6, .int e'.2.1), (7, .int e'.2.2.1)] [] [FP h0 h1 h2 h3 h4 h5 h6 h7 h8 h9, TB cy h2 a1 a2 a3 v1, SU cy a2 a4 v2, SC a3 (e'.2.2.2.1.1, e'.2.2.2.1.2.1, e'.2.2.2.1.2.2.1, e'.2.2.2.1.2.2.2.1, e'.2.2.2.1.2.2.2.2.1, e'.2.2.2.1.2.2.2.2.2), TA h7 (e'.2.2.2.2.1, e'.2.2.2.2.2.1, e'.2.2.2.2.2.2), AI cy 12 h8 v14, AI cy 66 h9 v15]) : GW p l e rmX7_best s m args below meth c A D 10 0 0 Q 195 [(0, .ref h0), (2, .int x2), (3, .ref h9), (4, .int x4), (5, .int x5), (6, .int x6), (7, .int x7), (8, .int x8)] [] [FP h0 h1 h2 h3 h4 h5 h6 h7 h8 h9, TB cy h2 a1 a2 a3 v1, SU cy a2 a4 v2, SC a3 v3, TA h7 v13, AI cy 12 h8 v14, AI cy 66 h9 v15] := by
  unfold f_X7_best_B81_b195 at hf
  refine g_iinc (lv' := [(0, .ref h0), (2, .int x2), (3, .ref h9), (4, .int x4), (5, .int x5), (6, .int x6), (7, .int x7), (8, .int (x8 + (1 : Int32)))]) (v := (1 : Int32)) X dX7_best_195 7 rfl (by decide) [1, 2, 3, 4, 5, 6, 7, 0] (Nat.le_of_ble_eq_true rfl) rfl ?_
  refine g_goto X 81 dX7_best_198 (by decide) ?_
  exact K1 (x5, x6, x7, (x8 + (1 : Int32)), v3, v13) (Option.some.inj hf).symm
def f_X7_best_B81 (v1 : TBv) (v2 : Fn) (v14 : Fn) (v15 : Fn) (x2 : Int32) (x4 : Int32) (z : Int32 × Int32 × Int32 × Int32 × SCv × TAv) : Option ((Int32 × Int32 × Int32 × Int32 × SCv × TAv) ⊕ ((Int32 × Int32 × Int32 × SCv × TAv))) :=
  if (66 : Int32) ≤ z.2.2.2.1 then some (.inr ((z.1, z.2.1, z.2.2.1, z.2.2.2.2.1, z.2.2.2.2.2))) else if z.2.2.2.1 < 0 ∨ 66 ≤ z.2.2.2.1.toNatClampNeg then none else if x4 ≤ (v15 z.2.2.2.1.toNatClampNeg) then some (.inr ((z.1, z.2.1, z.2.2.1, z.2.2.2.2.1, z.2.2.2.2.2))) else (itl (f_X7_best_B100 v1 v2 v14 v15 x2 x4 z.2.2.2.1) FU (z.1, z.2.1, z.2.2.1, (0 : Int32), z.2.2.2.2.1, z.2.2.2.2.2)).bind (fun q585 => f_X7_best_B81_b195 v1 v2 q585.2.2.2.1 q585.2.2.2.2 v14 v15 x2 x4 q585.1 q585.2.1 q585.2.2.1 z.2.2.2.1)
set_option maxRecDepth 100000 in
set_option maxHeartbeats 4000000 in
theorem b_X7_best_B81 {p : Program} {l : Launch} {e : Env} {s : State} {m : MethodId} {args : Array Value} {below : List Frame} {meth : Method} {c : Code} {A : Nat → Prop} {D : va_G} {cy : Nat → ClassId} {ad : (Nat → Nat) × (Nat → Nat)} {Q : State → Prop} (X : gK p s m args meth c A D cy ad cX7_best 10 RX7) (hr : meth.sig.returnType = (some .int)) (hne : ∀ x ∈ c.exceptionTable.toList, False) (hfl : l.stackTraces = false) {h0 h1 h2 h3 h4 h5 h6 h7 h8 h9 a1 a2 a3 a4 : Nat} (v1 : TBv) (v2 : Fn) (v14 : Fn) (v15 : Fn) (x2 : Int32) (x4 : Int32) (z : Int32 × Int32 × Int32 × Int32 × SCv × TAv) {q : (Int32 × Int32 × Int32 × Int32 × SCv × TAv) ⊕ ((Int32 × Int32 × Int32 × SCv × TAv))} (hf : f_X7_best_B81 v1 v2 v14 v15 x2 x4 z = some q) (K1 : ∀ s' : Int32 × Int32 × Int32 × Int32 × SCv × TAv, q = .inl s' → GW p l e rmX7_best s m args below meth c A D 10 0 0 Q 81 [(0, .ref h0), (2, .int x2), (3, .ref h9), (4, .int x4), (5, .int s'.1), (6, .int s'.2.1), (7, .int s'.2.2.1), (8, .int s'.2.2.2.1)] [] [FP h0 h1 h2 h3 h4 h5 h6 h7 h8 h9, TB cy h2 a1 a2 a3 v1, SU cy a2 a4 v2, SC a3 (s'.2.2.2.2.1.1, s'.2.2.2.2.1.2.1, s'.2.2.2.2.1.2.2.1, s'.2.2.2.2.1.2.2.2.1, s'.2.2.2.2.1.2.2.2.2.1, s'.2.2.2.2.1.2.2.2.2.2), TA h7 (s'.2.2.2.2.2.1, s'.2.2.2.2.2.2.1, s'.2.2.2.2.2.2.2), AI cy 12 h8 v14, AI cy 66 h9 v15]) (K2 : ∀ e' : Int32 × Int32 × Int32 × SCv × TAv, q = .inr (e') → GW p l e rmX7_best s m args below meth c A D 10 0 0 Q 201 [(2, .int x2), (5, .int e'.1), (6, .int e'.2.1), (7, .int e'.2.2.1)] [] [FP h0 h1 h2 h3 h4 h5 h6 h7 h8 h9, TB cy h2 a1 a2 a3 v1, SU cy a2 a4 v2, SC a3 (e'.2.2.2.1.1, e'.2.2.2.1.2.1, e'.2.2.2.1.2.2.1, e'.2.2.2.1.2.2.2.1, e'.2.2.2.1.2.2.2.2.1, e'.2.2.2.1.2.2.2.2.2), TA h7 (e'.2.2.2.2.1, e'.2.2.2.2.2.1, e'.2.2.2.2.2.2), AI cy 12 h8 v14, AI cy 66 h9 v15]) : GW p l e rmX7_best s m args below meth c A D 10 0 0 Q 81 [(0, .ref h0), (2, .int x2), (3, .ref h9), (4, .int x4), (5, .int z.1), (6, .int z.2.1), (7, .int z.2.2.1), (8, .int z.2.2.2.1)] [] [FP h0 h1 h2 h3 h4 h5 h6 h7 h8 h9, TB cy h2 a1 a2 a3 v1, SU cy a2 a4 v2, SC a3 z.2.2.2.2.1, TA h7 z.2.2.2.2.2, AI cy 12 h8 v14, AI cy 66 h9 v15] := by
  unfold f_X7_best_B81 at hf
  refine g_iload X dX7_best_81 7 rfl ?_
  refine g_aload_n X dX7_best_83 2 rfl rfl ?_
  refine g_alen0 (v := (66 : Int32)) X dX7_best_84 6 0 rfl rfl (by decide : Int32.ofNat 66 = (66 : Int32)) ?_
  refine g_icmp_ge X 201 dX7_best_85 (by decide) (fun c587 => ?_) (fun c587 => ?_)
  · have hf := opos c587 hf
    refine g_sub [1, 4, 5, 6] (lv' := [(2, .int x2), (5, .int z.1), (6, .int z.2.1), (7, .int z.2.2.1)]) rfl ?_
    exact K2 (z.1, z.2.1, z.2.2.1, z.2.2.2.2.1, z.2.2.2.2.2) (Option.some.inj hf).symm
  · have hf := oneg c587 hf
    refine g_aload_n X dX7_best_88 2 rfl rfl ?_
    refine g_iload X dX7_best_89 7 rfl ?_
    obtain ⟨n569, hf⟩ := oguard hf
    refine g_iaload X dX7_best_91 6 0 rfl rfl n569 ?_
    refine g_iload X dX7_best_92 3 rfl ?_
    refine g_icmp_ge X 201 dX7_best_94 (by decide) (fun c586 => ?_) (fun c586 => ?_)
    · have hf := opos c586 hf
      refine g_sub [1, 4, 5, 6] (lv' := [(2, .int x2), (5, .int z.1), (6, .int z.2.1), (7, .int z.2.2.1)]) rfl ?_
      exact K2 (z.1, z.2.1, z.2.2.1, z.2.2.2.2.1, z.2.2.2.2.2) (Option.some.inj hf).symm
    · have hf := oneg c586 hf
      refine g_iconst X (0 : Int32) dX7_best_97 (by decide) ?_
      refine g_istore (lv' := [(0, .ref h0), (2, .int x2), (3, .ref h9), (4, .int x4), (5, .int z.1), (6, .int z.2.1), (7, .int z.2.2.1), (8, .int z.2.2.2.1), (9, .int (0 : Int32))]) X dX7_best_98 [1, 2, 3, 4, 5, 6, 7, 8, 0] (Nat.le_of_ble_eq_true rfl) rfl ?_
      obtain ⟨q585, hq585, hf⟩ := obind hf
      refine w_X7_best_B100 X hr hne hfl v1 v2 v14 v15 x2 x4 z.2.2.2.1 hq585 ?_
      exact j_X7_best_B81_b195 X hr hne hfl v1 v2 q585.2.2.2.1 q585.2.2.2.2 v14 v15 x2 x4 q585.1 q585.2.1 q585.2.2.1 z.2.2.2.1 hf K1 K2
set_option maxRecDepth 100000 in
set_option maxHeartbeats 4000000 in
theorem w_X7_best_B81 {p : Program} {l : Launch} {e : Env} {s : State} {m : MethodId} {args : Array Value} {below : List Frame} {meth : Method} {c : Code} {A : Nat → Prop} {D : va_G} {cy : Nat → ClassId} {ad : (Nat → Nat) × (Nat → Nat)} {Q : State → Prop} (X : gK p s m args meth c A D cy ad cX7_best 10 RX7) (hr : meth.sig.returnType = (some .int)) (hne : ∀ x ∈ c.exceptionTable.toList, False) (hfl : l.stackTraces = false) {h0 h1 h2 h3 h4 h5 h6 h7 h8 h9 a1 a2 a3 a4 : Nat} (v1 : TBv) (v2 : Fn) (v14 : Fn) (v15 : Fn) (x2 : Int32) (x4 : Int32) {n : Nat} {z : Int32 × Int32 × Int32 × Int32 × SCv × TAv} {q : (Int32 × Int32 × Int32 × SCv × TAv)} (hf : itl (f_X7_best_B81 v1 v2 v14 v15 x2 x4) n z = some q) (K2 : GW p l e rmX7_best s m args below meth c A D 10 0 0 Q 201 [(2, .int x2), (5, .int q.1), (6, .int q.2.1), (7, .int q.2.2.1)] [] [FP h0 h1 h2 h3 h4 h5 h6 h7 h8 h9, TB cy h2 a1 a2 a3 v1, SU cy a2 a4 v2, SC a3 q.2.2.2.1, TA h7 q.2.2.2.2, AI cy 12 h8 v14, AI cy 66 h9 v15]) : GW p l e rmX7_best s m args below meth c A D 10 0 0 Q 81 [(0, .ref h0), (2, .int x2), (3, .ref h9), (4, .int x4), (5, .int z.1), (6, .int z.2.1), (7, .int z.2.2.1), (8, .int z.2.2.2.1)] [] [FP h0 h1 h2 h3 h4 h5 h6 h7 h8 h9, TB cy h2 a1 a2 a3 v1, SU cy a2 a4 v2, SC a3 z.2.2.2.2.1, TA h7 z.2.2.2.2.2, AI cy 12 h8 v14, AI cy 66 h9 v15] :=
  itl_ind (f := f_X7_best_B81 v1 v2 v14 v15 x2 x4) (I := fun z => GW p l e rmX7_best s m args below meth c A D 10 0 0 Q 81 [(0, .ref h0), (2, .int x2), (3, .ref h9), (4, .int x4), (5, .int z.1), (6, .int z.2.1), (7, .int z.2.2.1), (8, .int z.2.2.2.1)] [] [FP h0 h1 h2 h3 h4 h5 h6 h7 h8 h9, TB cy h2 a1 a2 a3 v1, SU cy a2 a4 v2, SC a3 z.2.2.2.2.1, TA h7 z.2.2.2.2.2, AI cy 12 h8 v14, AI cy 66 h9 v15]) (J := (fun q => GW p l e rmX7_best s m args below meth c A D 10 0 0 Q 201 [(2, .int x2), (5, .int q.1), (6, .int q.2.1), (7, .int q.2.2.1)] [] [FP h0 h1 h2 h3 h4 h5 h6 h7 h8 h9, TB cy h2 a1 a2 a3 v1, SU cy a2 a4 v2, SC a3 q.2.2.2.1, TA h7 q.2.2.2.2, AI cy 12 h8 v14, AI cy 66 h9 v15])) (fun z x h k1 k2 => b_X7_best_B81 X hr hne hfl v1 v2 v14 v15 x2 x4 z h (fun s' hs => k1 s' hs) (fun e' he => k2 e' he)) n z q hf K2
def f_X7_best_b201 (v1 : TBv) (v2 : Fn) (v3 : SCv) (v13 : TAv) (v14 : Fn) (v15 : Fn) (x2 : Int32) (x5 : Int32) (x6 : Int32) (x7 : Int32) : Option ((Int32 × SCv × TAv) ⊕ (Nat × SCv × TAv)) :=
  if x2 = 0 then some (.inl (x5, v3, v13)) else if x2 = (1 : Int32) then some (.inl (x6, v3, v13)) else some (.inl (x7, v3, v13))
set_option maxRecDepth 100000 in
set_option maxHeartbeats 4000000 in
theorem j_X7_best_b201 {p : Program} {l : Launch} {e : Env} {s : State} {m : MethodId} {args : Array Value} {below : List Frame} {meth : Method} {c : Code} {A : Nat → Prop} {D : va_G} {cy : Nat → ClassId} {ad : (Nat → Nat) × (Nat → Nat)} (X : gK p s m args meth c A D cy ad cX7_best 10 RX7) (hr : meth.sig.returnType = (some .int)) (hne : ∀ x ∈ c.exceptionTable.toList, False) (hfl : l.stackTraces = false) {h0 h1 h2 h3 h4 h5 h6 h7 h8 h9 a1 a2 a3 a4 : Nat} (v1 : TBv) (v2 : Fn) (v3 : SCv) (v13 : TAv) (v14 : Fn) (v15 : Fn) (x2 : Int32) (x5 : Int32) (x6 : Int32) (x7 : Int32) {q : (Int32 × SCv × TAv) ⊕ (Nat × SCv × TAv)} (hf : f_X7_best_b201 v1 v2 v3 v13 v14 v15 x2 x5 x6 x7 = some q) : GW p l e rmX7_best s m args below meth c A D 10 0 0 (vx_MQ below (xmQ D cy A (Sum.elim (fun q => Sum.inl ((some (.int q.1)), [FP h0 h1 h2 h3 h4 h5 h6 h7 h8 h9, TB cy h2 a1 a2 a3 v1, SU cy a2 a4 v2, SC a3 q.2.1, TA h7 q.2.2, AI cy 12 h8 v14, AI cy 66 h9 v15])) (fun q => Sum.inr (q.1, [FP h0 h1 h2 h3 h4 h5 h6 h7 h8 h9, TB cy h2 a1 a2 a3 v1, SU cy a2 a4 v2, SC a3 q.2.1, TA h7 q.2.2, AI cy 12 h8 v14, AI cy 66 h9 v15])) q : xRes)) (xmX D cy A (Sum.elim (fun q => Sum.inl ((some (.int q.1)), [FP h0 h1 h2 h3 h4 h5 h6 h7 h8 h9, TB cy h2 a1 a2 a3 v1, SU cy a2 a4 v2, SC a3 q.2.1, TA h7 q.2.2, AI cy 12 h8 v14, AI cy 66 h9 v15])) (fun q => Sum.inr (q.1, [FP h0 h1 h2 h3 h4 h5 h6 h7 h8 h9, TB cy h2 a1 a2 a3 v1, SU cy a2 a4 v2, SC a3 q.2.1, TA h7 q.2.2, AI cy 12 h8 v14, AI cy 66 h9 v15])) q : xRes)) args s 1 6 A) 201 [(2, .int x2), (5, .int x5), (6, .int x6), (7, .int x7)] [] [FP h0 h1 h2 h3 h4 h5 h6 h7 h8 h9, TB cy h2 a1 a2 a3 v1, SU cy a2 a4 v2, SC a3 v3, TA h7 v13, AI cy 12 h8 v14, AI cy 66 h9 v15] := by
  unfold f_X7_best_b201 at hf
  refine g_iload_n X dX7_best_201 0 rfl rfl ?_
  refine g_if_ne X 210 dX7_best_202 (by decide) (fun c590 => ?_) (fun c590 => ?_)
  · have hf := oneg c590 hf
    refine g_iload_n X dX7_best_210 0 rfl rfl ?_
    refine g_iconst X (1 : Int32) dX7_best_211 (by decide) ?_
    refine g_icmp_ne X 220 dX7_best_212 (by decide) (fun c589 => ?_) (fun c589 => ?_)
    · have hf := oneg c589 hf
      refine g_iload X dX7_best_220 3 rfl ?_
      have hf := Option.some.inj hf
      subst hf
      exact g_xret (Nat.le_of_ble_eq_true rfl) (Nat.le_of_ble_eq_true rfl) (g_iret X hr dX7_best_222)
    · have hf := opos c589 hf
      refine g_iload X dX7_best_215 2 rfl ?_
      refine g_goto X 222 dX7_best_217 (by decide) ?_
      have hf := Option.some.inj hf
      subst hf
      exact g_xret (Nat.le_of_ble_eq_true rfl) (Nat.le_of_ble_eq_true rfl) (g_iret X hr dX7_best_222)
  · have hf := opos c590 hf
    refine g_iload X dX7_best_205 1 rfl ?_
    refine g_goto X 222 dX7_best_207 (by decide) ?_
    have hf := Option.some.inj hf
    subst hf
    exact g_xret (Nat.le_of_ble_eq_true rfl) (Nat.le_of_ble_eq_true rfl) (g_iret X hr dX7_best_222)
def f_X7_best_b57 (v1 : TBv) (v2 : Fn) (v3 : SCv) (v13 : TAv) (v14 : Fn) (v15 : Fn) (x2 : Int32) : Option ((Int32 × SCv × TAv) ⊕ (Nat × SCv × TAv)) :=
  (itl (f_X7_best_B81 v1 v2 v14 v15 x2 ((1 : Int32) <<< (v1.1 &&& 31))) FU ((-1 : Int32), (-1 : Int32), (-1 : Int32), (0 : Int32), v3, v13)).bind (fun q588 => f_X7_best_b201 v1 v2 q588.2.2.2.1 q588.2.2.2.2 v14 v15 x2 q588.1 q588.2.1 q588.2.2.1)
set_option maxRecDepth 100000 in
set_option maxHeartbeats 4000000 in
theorem j_X7_best_b57 {p : Program} {l : Launch} {e : Env} {s : State} {m : MethodId} {args : Array Value} {below : List Frame} {meth : Method} {c : Code} {A : Nat → Prop} {D : va_G} {cy : Nat → ClassId} {ad : (Nat → Nat) × (Nat → Nat)} (X : gK p s m args meth c A D cy ad cX7_best 10 RX7) (hr : meth.sig.returnType = (some .int)) (hne : ∀ x ∈ c.exceptionTable.toList, False) (hfl : l.stackTraces = false) {h0 h1 h2 h3 h4 h5 h6 h7 h8 h9 a1 a2 a3 a4 : Nat} (v1 : TBv) (v2 : Fn) (v3 : SCv) (v13 : TAv) (v14 : Fn) (v15 : Fn) (x2 : Int32) {q : (Int32 × SCv × TAv) ⊕ (Nat × SCv × TAv)} (hf : f_X7_best_b57 v1 v2 v3 v13 v14 v15 x2 = some q) : GW p l e rmX7_best s m args below meth c A D 10 0 0 (vx_MQ below (xmQ D cy A (Sum.elim (fun q => Sum.inl ((some (.int q.1)), [FP h0 h1 h2 h3 h4 h5 h6 h7 h8 h9, TB cy h2 a1 a2 a3 v1, SU cy a2 a4 v2, SC a3 q.2.1, TA h7 q.2.2, AI cy 12 h8 v14, AI cy 66 h9 v15])) (fun q => Sum.inr (q.1, [FP h0 h1 h2 h3 h4 h5 h6 h7 h8 h9, TB cy h2 a1 a2 a3 v1, SU cy a2 a4 v2, SC a3 q.2.1, TA h7 q.2.2, AI cy 12 h8 v14, AI cy 66 h9 v15])) q : xRes)) (xmX D cy A (Sum.elim (fun q => Sum.inl ((some (.int q.1)), [FP h0 h1 h2 h3 h4 h5 h6 h7 h8 h9, TB cy h2 a1 a2 a3 v1, SU cy a2 a4 v2, SC a3 q.2.1, TA h7 q.2.2, AI cy 12 h8 v14, AI cy 66 h9 v15])) (fun q => Sum.inr (q.1, [FP h0 h1 h2 h3 h4 h5 h6 h7 h8 h9, TB cy h2 a1 a2 a3 v1, SU cy a2 a4 v2, SC a3 q.2.1, TA h7 q.2.2, AI cy 12 h8 v14, AI cy 66 h9 v15])) q : xRes)) args s 1 6 A) 57 [(0, .ref h0), (2, .int x2)] [.ref h9] [FP h0 h1 h2 h3 h4 h5 h6 h7 h8 h9, TB cy h2 a1 a2 a3 v1, SU cy a2 a4 v2, SC a3 v3, TA h7 v13, AI cy 12 h8 v14, AI cy 66 h9 v15] := by
  unfold f_X7_best_b57 at hf
  refine g_astore_n (lv' := [(0, .ref h0), (2, .int x2), (3, .ref h9)]) X dX7_best_57 [1, 2, 0] rfl (Nat.le_of_ble_eq_true rfl) rfl ?_
  refine g_iconst X (1 : Int32) dX7_best_58 (by decide) ?_
  refine g_aload_n X dX7_best_59 0 rfl rfl ?_
  refine g_get X dX7_best_60 ck_X7 0 0 1 rfl rfl (Nat.le_of_ble_eq_true rfl) lkf_X7_19 rfl ?_
  refine g_get X dX7_best_63 ck_X4 1 0 0 rfl rfl (Nat.le_of_ble_eq_true rfl) lkf_X7_145 rfl ?_
  refine g_ishl X dX7_best_66 ?_
  refine g_istore (lv' := [(0, .ref h0), (2, .int x2), (3, .ref h9), (4, .int ((1 : Int32) <<< (v1.1 &&& 31)))]) X dX7_best_67 [1, 2, 3, 0] (Nat.le_of_ble_eq_true rfl) rfl ?_
  refine g_iconst X (-1 : Int32) dX7_best_69 (by decide) ?_
  refine g_istore (lv' := [(0, .ref h0), (2, .int x2), (3, .ref h9), (4, .int ((1 : Int32) <<< (v1.1 &&& 31))), (5, .int (-1 : Int32))]) X dX7_best_70 [1, 2, 3, 4, 0] (Nat.le_of_ble_eq_true rfl) rfl ?_
  refine g_iconst X (-1 : Int32) dX7_best_72 (by decide) ?_
  refine g_istore (lv' := [(0, .ref h0), (2, .int x2), (3, .ref h9), (4, .int ((1 : Int32) <<< (v1.1 &&& 31))), (5, .int (-1 : Int32)), (6, .int (-1 : Int32))]) X dX7_best_73 [1, 2, 3, 4, 5, 0] (Nat.le_of_ble_eq_true rfl) rfl ?_
  refine g_iconst X (-1 : Int32) dX7_best_75 (by decide) ?_
  refine g_istore (lv' := [(0, .ref h0), (2, .int x2), (3, .ref h9), (4, .int ((1 : Int32) <<< (v1.1 &&& 31))), (5, .int (-1 : Int32)), (6, .int (-1 : Int32)), (7, .int (-1 : Int32))]) X dX7_best_76 [1, 2, 3, 4, 5, 6, 0] (Nat.le_of_ble_eq_true rfl) rfl ?_
  refine g_iconst X (0 : Int32) dX7_best_78 (by decide) ?_
  refine g_istore (lv' := [(0, .ref h0), (2, .int x2), (3, .ref h9), (4, .int ((1 : Int32) <<< (v1.1 &&& 31))), (5, .int (-1 : Int32)), (6, .int (-1 : Int32)), (7, .int (-1 : Int32)), (8, .int (0 : Int32))]) X dX7_best_79 [1, 2, 3, 4, 5, 6, 7, 0] (Nat.le_of_ble_eq_true rfl) rfl ?_
  obtain ⟨q588, hq588, hf⟩ := obind hf
  refine w_X7_best_B81 X hr hne hfl v1 v2 v14 v15 x2 ((1 : Int32) <<< (v1.1 &&& 31)) hq588 ?_
  exact j_X7_best_b201 X hr hne hfl v1 v2 q588.2.2.2.1 q588.2.2.2.2 v14 v15 x2 q588.1 q588.2.1 q588.2.2.1 hf
def f_X7_best_B100v1_b189 (v1 : TBv) (v2 : Fn) (v3 : SCv) (v13 : TAv) (v14 : Fn) (v15 : Fn) (x2 : Int32) (x4 : Int32) (x5 : Int32) (x6 : Int32) (x7 : Int32) (x8 : Int32) (x9 : Int32) : Option ((Int32 × Int32 × Int32 × Int32 × SCv × TAv) ⊕ ((Int32 × Int32 × Int32 × SCv × TAv))) :=
  some (.inl (x5, x6, x7, (x9 + (1 : Int32)), v3, v13))
set_option maxRecDepth 100000 in
set_option maxHeartbeats 4000000 in
theorem j_X7_best_B100v1_b189 {p : Program} {l : Launch} {e : Env} {s : State} {m : MethodId} {args : Array Value} {below : List Frame} {meth : Method} {c : Code} {A : Nat → Prop} {D : va_G} {cy : Nat → ClassId} {ad : (Nat → Nat) × (Nat → Nat)} {Q : State → Prop} (X : gK p s m args meth c A D cy ad cX7_best 10 RX7) (hr : meth.sig.returnType = (some .int)) (hne : ∀ x ∈ c.exceptionTable.toList, False) (hfl : l.stackTraces = false) {h0 h1 h2 h3 h4 h5 h6 h7 h8 h9 a1 a2 a3 a4 : Nat} (v1 : TBv) (v2 : Fn) (v3 : SCv) (v13 : TAv) (v14 : Fn) (v15 : Fn) (x2 : Int32) (x4 : Int32) (x5 : Int32) (x6 : Int32) (x7 : Int32) (x8 : Int32) (x9 : Int32) {q : (Int32 × Int32 × Int32 × Int32 × SCv × TAv) ⊕ ((Int32 × Int32 × Int32 × SCv × TAv))} (hf : f_X7_best_B100v1_b189 v1 v2 v3 v13 v14 v15 x2 x4 x5 x6 x7 x8 x9 = some q) (K1 : ∀ s' : Int32 × Int32 × Int32 × Int32 × SCv × TAv, q = .inl s' → GW p l e rmX7_best s m args below meth c A D 10 0 0 Q 100 [(0, .ref h0), (2, .int x2), (3, .ref h8), (4, .int x4), (5, .int s'.1), (6, .int s'.2.1), (7, .int s'.2.2.1), (8, .int x8), (9, .int s'.2.2.2.1)] [] [FP h0 h1 h2 h3 h4 h5 h6 h7 h8 h9, TB cy h2 a1 a2 a3 v1, SU cy a2 a4 v2, SC a3 (s'.2.2.2.2.1.1, s'.2.2.2.2.1.2.1, s'.2.2.2.2.1.2.2.1, s'.2.2.2.2.1.2.2.2.1, s'.2.2.2.2.1.2.2.2.2.1, s'.2.2.2.2.1.2.2.2.2.2), TA h7 (s'.2.2.2.2.2.1, s'.2.2.2.2.2.2.1, s'.2.2.2.2.2.2.2), AI cy 12 h8 v14, AI cy 66 h9 v15]) (K2 : ∀ e' : Int32 × Int32 × Int32 × SCv × TAv, q = .inr (e') → GW p l e rmX7_best s m args below meth c A D 10 0 0 Q 195 [(0, .ref h0), (2, .int x2), (3, .ref h8), (4, .int x4), (5, .int e'.1), (6, .int e'.2.1), (7, .int e'.2.2.1), (8, .int x8)] [] [FP h0 h1 h2 h3 h4 h5 h6 h7 h8 h9, TB cy h2 a1 a2 a3 v1, SU cy a2 a4 v2, SC a3 (e'.2.2.2.1.1, e'.2.2.2.1.2.1, e'.2.2.2.1.2.2.1, e'.2.2.2.1.2.2.2.1, e'.2.2.2.1.2.2.2.2.1, e'.2.2.2.1.2.2.2.2.2), TA h7 (e'.2.2.2.2.1, e'.2.2.2.2.2.1, e'.2.2.2.2.2.2), AI cy 12 h8 v14, AI cy 66 h9 v15]) : GW p l e rmX7_best s m args below meth c A D 10 0 0 Q 189 [(0, .ref h0), (2, .int x2), (3, .ref h8), (4, .int x4), (5, .int x5), (6, .int x6), (7, .int x7), (8, .int x8), (9, .int x9)] [] [FP h0 h1 h2 h3 h4 h5 h6 h7 h8 h9, TB cy h2 a1 a2 a3 v1, SU cy a2 a4 v2, SC a3 v3, TA h7 v13, AI cy 12 h8 v14, AI cy 66 h9 v15] := by
  unfold f_X7_best_B100v1_b189 at hf
  refine g_iinc (lv' := [(0, .ref h0), (2, .int x2), (3, .ref h8), (4, .int x4), (5, .int x5), (6, .int x6), (7, .int x7), (8, .int x8), (9, .int (x9 + (1 : Int32)))]) (v := (1 : Int32)) X dX7_best_189 8 rfl (by decide) [1, 2, 3, 4, 5, 6, 7, 8, 0] (Nat.le_of_ble_eq_true rfl) rfl ?_
  refine g_goto X 100 dX7_best_192 (by decide) ?_
  exact K1 (x5, x6, x7, (x9 + (1 : Int32)), v3, v13) (Option.some.inj hf).symm
def f_X7_best_B100v1_b168 (v1 : TBv) (v2 : Fn) (v3 : SCv) (v13 : TAv) (v14 : Fn) (v15 : Fn) (x2 : Int32) (x4 : Int32) (x8 : Int32) (x9 : Int32) : Option ((Int32 × Int32 × Int32 × Int32 × SCv × TAv) ⊕ ((Int32 × Int32 × Int32 × SCv × TAv))) :=
  (f_X5_worst v13).bind (fun q598 => if x8 < 0 ∨ 12 ≤ x8.toNatClampNeg then none else if x9 < 0 ∨ 12 ≤ x9.toNatClampNeg then none else f_X7_best_B100v1_b189 v1 v2 v3 v13 v14 v15 x2 x4 (v14 x8.toNatClampNeg) (v14 x9.toNatClampNeg) q598 x8 x9)
set_option maxRecDepth 100000 in
set_option maxHeartbeats 4000000 in
theorem j_X7_best_B100v1_b168 {p : Program} {l : Launch} {e : Env} {s : State} {m : MethodId} {args : Array Value} {below : List Frame} {meth : Method} {c : Code} {A : Nat → Prop} {D : va_G} {cy : Nat → ClassId} {ad : (Nat → Nat) × (Nat → Nat)} {Q : State → Prop} (X : gK p s m args meth c A D cy ad cX7_best 10 RX7) (hr : meth.sig.returnType = (some .int)) (hne : ∀ x ∈ c.exceptionTable.toList, False) (hfl : l.stackTraces = false) {h0 h1 h2 h3 h4 h5 h6 h7 h8 h9 a1 a2 a3 a4 : Nat} (v1 : TBv) (v2 : Fn) (v3 : SCv) (v13 : TAv) (v14 : Fn) (v15 : Fn) (x2 : Int32) (x4 : Int32) (x8 : Int32) (x9 : Int32) {q : (Int32 × Int32 × Int32 × Int32 × SCv × TAv) ⊕ ((Int32 × Int32 × Int32 × SCv × TAv))} (hf : f_X7_best_B100v1_b168 v1 v2 v3 v13 v14 v15 x2 x4 x8 x9 = some q) (K1 : ∀ s' : Int32 × Int32 × Int32 × Int32 × SCv × TAv, q = .inl s' → GW p l e rmX7_best s m args below meth c A D 10 0 0 Q 100 [(0, .ref h0), (2, .int x2), (3, .ref h8), (4, .int x4), (5, .int s'.1), (6, .int s'.2.1), (7, .int s'.2.2.1), (8, .int x8), (9, .int s'.2.2.2.1)] [] [FP h0 h1 h2 h3 h4 h5 h6 h7 h8 h9, TB cy h2 a1 a2 a3 v1, SU cy a2 a4 v2, SC a3 (s'.2.2.2.2.1.1, s'.2.2.2.2.1.2.1, s'.2.2.2.2.1.2.2.1, s'.2.2.2.2.1.2.2.2.1, s'.2.2.2.2.1.2.2.2.2.1, s'.2.2.2.2.1.2.2.2.2.2), TA h7 (s'.2.2.2.2.2.1, s'.2.2.2.2.2.2.1, s'.2.2.2.2.2.2.2), AI cy 12 h8 v14, AI cy 66 h9 v15]) (K2 : ∀ e' : Int32 × Int32 × Int32 × SCv × TAv, q = .inr (e') → GW p l e rmX7_best s m args below meth c A D 10 0 0 Q 195 [(0, .ref h0), (2, .int x2), (3, .ref h8), (4, .int x4), (5, .int e'.1), (6, .int e'.2.1), (7, .int e'.2.2.1), (8, .int x8)] [] [FP h0 h1 h2 h3 h4 h5 h6 h7 h8 h9, TB cy h2 a1 a2 a3 v1, SU cy a2 a4 v2, SC a3 (e'.2.2.2.1.1, e'.2.2.2.1.2.1, e'.2.2.2.1.2.2.1, e'.2.2.2.1.2.2.2.1, e'.2.2.2.1.2.2.2.2.1, e'.2.2.2.1.2.2.2.2.2), TA h7 (e'.2.2.2.2.1, e'.2.2.2.2.2.1, e'.2.2.2.2.2.2), AI cy 12 h8 v14, AI cy 66 h9 v15]) : GW p l e rmX7_best s m args below meth c A D 10 0 0 Q 168 [(0, .ref h0), (2, .int x2), (3, .ref h8), (4, .int x4), (8, .int x8), (9, .int x9)] [] [FP h0 h1 h2 h3 h4 h5 h6 h7 h8 h9, TB cy h2 a1 a2 a3 v1, SU cy a2 a4 v2, SC a3 v3, TA h7 v13, AI cy 12 h8 v14, AI cy 66 h9 v15] := by
  unfold f_X7_best_B100v1_b168 at hf
  refine g_aload_n X dX7_best_168 0 rfl rfl ?_
  refine g_get X dX7_best_169 ck_X7 0 0 6 rfl rfl (Nat.le_of_ble_eq_true rfl) lkf_X7_46 rfl ?_
  obtain ⟨q598, hq598, hf⟩ := obind hf
  refine g_callV (gs' := [FP h0 h1 h2 h3 h4 h5 h6 h7 h8 h9, TB cy h2 a1 a2 a3 v1, SU cy a2 a4 v2, SC a3 v3, TA h7 v13, AI cy 12 h8 v14, AI cy 66 h9 v15]) (rest := []) X dX7_best_172 (c_X5_worst l D cy ad h7 v13 hq598) mf_X5_worst mv_X5_worst lkm_X7_269 ⟨(Nat.le_of_ble_eq_true rfl), (Nat.le_of_ble_eq_true rfl), (Nat.le_of_ble_eq_true rfl), (Nat.le_of_ble_eq_true rfl)⟩ 4 0 rfl rfl rfl rfl [4, 0, 1, 2, 3, 5, 6] _ (by decide : [4, 0, 1, 2, 3, 5, 6].Perm (List.range 7)) rfl (by decide : [4, 0, 1, 2, 3, 5, 6].Perm (List.range 7)) rfl (Nat.le_of_ble_eq_true rfl) rfl ?_
  refine g_istore (lv' := [(0, .ref h0), (2, .int x2), (3, .ref h8), (4, .int x4), (7, .int q598), (8, .int x8), (9, .int x9)]) X dX7_best_175 [1, 2, 3, 4, 0, 5, 6] (Nat.le_of_ble_eq_true rfl) rfl ?_
  refine g_aload_n X dX7_best_177 2 rfl rfl ?_
  refine g_iload X dX7_best_178 5 rfl ?_
  obtain ⟨n599, hf⟩ := oguard hf
  refine g_iaload X dX7_best_180 5 0 rfl rfl n599 ?_
  refine g_istore (lv' := [(0, .ref h0), (2, .int x2), (3, .ref h8), (4, .int x4), (5, .int (v14 x8.toNatClampNeg)), (7, .int q598), (8, .int x8), (9, .int x9)]) X dX7_best_181 [1, 2, 3, 4, 0, 5, 6, 7] (Nat.le_of_ble_eq_true rfl) rfl ?_
  refine g_aload_n X dX7_best_183 2 rfl rfl ?_
  refine g_iload X dX7_best_184 7 rfl ?_
  obtain ⟨n600, hf⟩ := oguard hf
  refine g_iaload X dX7_best_186 5 0 rfl rfl n600 ?_
  refine g_istore (lv' := [(0, .ref h0), (2, .int x2), (3, .ref h8), (4, .int x4), (5, .int (v14 x8.toNatClampNeg)), (6, .int (v14 x9.toNatClampNeg)), (7, .int q598), (8, .int x8), (9, .int x9)]) X dX7_best_187 [1, 2, 3, 4, 5, 0, 6, 7, 8] (Nat.le_of_ble_eq_true rfl) rfl ?_
  exact j_X7_best_B100v1_b189 X hr hne hfl v1 v2 v3 v13 v14 v15 x2 x4 (v14 x8.toNatClampNeg) (v14 x9.toNatClampNeg) q598 x8 x9 hf K1 K2
def f_X7_best_B100v1 (v1 : TBv) (v2 : Fn) (v14 : Fn) (v15 : Fn) (x2 : Int32) (x4 : Int32) (x8 : Int32) (z : Int32 × Int32 × Int32 × Int32 × SCv × TAv) : Option ((Int32 × Int32 × Int32 × Int32 × SCv × TAv) ⊕ ((Int32 × Int32 × Int32 × SCv × TAv))) :=
  if (12 : Int32) ≤ z.2.2.2.1 then some (.inr ((z.1, z.2.1, z.2.2.1, z.2.2.2.2.1, z.2.2.2.2.2))) else if z.2.2.2.1 < 0 ∨ 12 ≤ z.2.2.2.1.toNatClampNeg then none else if x4 ≤ (v14 z.2.2.2.1.toNatClampNeg) then some (.inr ((z.1, z.2.1, z.2.2.1, z.2.2.2.2.1, z.2.2.2.2.2))) else if x8 < 0 ∨ 12 ≤ x8.toNatClampNeg then none else if z.2.2.2.1 < 0 ∨ 12 ≤ z.2.2.2.1.toNatClampNeg then none else if ((v14 x8.toNatClampNeg) &&& (v14 z.2.2.2.1.toNatClampNeg)) = 0 then if x8 < 0 ∨ 12 ≤ x8.toNatClampNeg then none else if z.2.2.2.1 < 0 ∨ 12 ≤ z.2.2.2.1.toNatClampNeg then none else (f_X4_foresee v1 v2 z.2.2.2.2.1 z.2.2.2.2.2 (v14 x8.toNatClampNeg) (v14 z.2.2.2.1.toNatClampNeg)).bind (fun q597 => if z.2.2.1 = (-1 : Int32) then f_X7_best_B100v1_b168 v1 v2 q597.1 q597.2 v14 v15 x2 x4 x8 z.2.2.2.1 else (f_X5_worst q597.2).bind (fun q601 => if z.2.2.1 ≤ q601 then f_X7_best_B100v1_b189 v1 v2 q597.1 q597.2 v14 v15 x2 x4 z.1 z.2.1 z.2.2.1 x8 z.2.2.2.1 else f_X7_best_B100v1_b168 v1 v2 q597.1 q597.2 v14 v15 x2 x4 x8 z.2.2.2.1)) else f_X7_best_B100v1_b189 v1 v2 z.2.2.2.2.1 z.2.2.2.2.2 v14 v15 x2 x4 z.1 z.2.1 z.2.2.1 x8 z.2.2.2.1
set_option maxRecDepth 100000 in
set_option maxHeartbeats 4000000 in
theorem b_X7_best_B100v1 {p : Program} {l : Launch} {e : Env} {s : State} {m : MethodId} {args : Array Value} {below : List Frame} {meth : Method} {c : Code} {A : Nat → Prop} {D : va_G} {cy : Nat → ClassId} {ad : (Nat → Nat) × (Nat → Nat)} {Q : State → Prop} (X : gK p s m args meth c A D cy ad cX7_best 10 RX7) (hr : meth.sig.returnType = (some .int)) (hne : ∀ x ∈ c.exceptionTable.toList, False) (hfl : l.stackTraces = false) {h0 h1 h2 h3 h4 h5 h6 h7 h8 h9 a1 a2 a3 a4 : Nat} (v1 : TBv) (v2 : Fn) (v14 : Fn) (v15 : Fn) (x2 : Int32) (x4 : Int32) (x8 : Int32) (z : Int32 × Int32 × Int32 × Int32 × SCv × TAv) {q : (Int32 × Int32 × Int32 × Int32 × SCv × TAv) ⊕ ((Int32 × Int32 × Int32 × SCv × TAv))} (hf : f_X7_best_B100v1 v1 v2 v14 v15 x2 x4 x8 z = some q) (K1 : ∀ s' : Int32 × Int32 × Int32 × Int32 × SCv × TAv, q = .inl s' → GW p l e rmX7_best s m args below meth c A D 10 0 0 Q 100 [(0, .ref h0), (2, .int x2), (3, .ref h8), (4, .int x4), (5, .int s'.1), (6, .int s'.2.1), (7, .int s'.2.2.1), (8, .int x8), (9, .int s'.2.2.2.1)] [] [FP h0 h1 h2 h3 h4 h5 h6 h7 h8 h9, TB cy h2 a1 a2 a3 v1, SU cy a2 a4 v2, SC a3 (s'.2.2.2.2.1.1, s'.2.2.2.2.1.2.1, s'.2.2.2.2.1.2.2.1, s'.2.2.2.2.1.2.2.2.1, s'.2.2.2.2.1.2.2.2.2.1, s'.2.2.2.2.1.2.2.2.2.2), TA h7 (s'.2.2.2.2.2.1, s'.2.2.2.2.2.2.1, s'.2.2.2.2.2.2.2), AI cy 12 h8 v14, AI cy 66 h9 v15]) (K2 : ∀ e' : Int32 × Int32 × Int32 × SCv × TAv, q = .inr (e') → GW p l e rmX7_best s m args below meth c A D 10 0 0 Q 195 [(0, .ref h0), (2, .int x2), (3, .ref h8), (4, .int x4), (5, .int e'.1), (6, .int e'.2.1), (7, .int e'.2.2.1), (8, .int x8)] [] [FP h0 h1 h2 h3 h4 h5 h6 h7 h8 h9, TB cy h2 a1 a2 a3 v1, SU cy a2 a4 v2, SC a3 (e'.2.2.2.1.1, e'.2.2.2.1.2.1, e'.2.2.2.1.2.2.1, e'.2.2.2.1.2.2.2.1, e'.2.2.2.1.2.2.2.2.1, e'.2.2.2.1.2.2.2.2.2), TA h7 (e'.2.2.2.2.1, e'.2.2.2.2.2.1, e'.2.2.2.2.2.2), AI cy 12 h8 v14, AI cy 66 h9 v15]) : GW p l e rmX7_best s m args below meth c A D 10 0 0 Q 100 [(0, .ref h0), (2, .int x2), (3, .ref h8), (4, .int x4), (5, .int z.1), (6, .int z.2.1), (7, .int z.2.2.1), (8, .int x8), (9, .int z.2.2.2.1)] [] [FP h0 h1 h2 h3 h4 h5 h6 h7 h8 h9, TB cy h2 a1 a2 a3 v1, SU cy a2 a4 v2, SC a3 z.2.2.2.2.1, TA h7 z.2.2.2.2.2, AI cy 12 h8 v14, AI cy 66 h9 v15] := by
  unfold f_X7_best_B100v1 at hf
  refine g_iload X dX7_best_100 8 rfl ?_
  refine g_aload_n X dX7_best_102 2 rfl rfl ?_
  refine g_alen0 (v := (12 : Int32)) X dX7_best_103 5 0 rfl rfl (by decide : Int32.ofNat 12 = (12 : Int32)) ?_
  refine g_icmp_ge X 195 dX7_best_104 (by decide) (fun c606 => ?_) (fun c606 => ?_)
  · have hf := opos c606 hf
    refine g_sub [0, 1, 2, 3, 4, 5, 6, 7] (lv' := [(0, .ref h0), (2, .int x2), (3, .ref h8), (4, .int x4), (5, .int z.1), (6, .int z.2.1), (7, .int z.2.2.1), (8, .int x8)]) rfl ?_
    exact K2 (z.1, z.2.1, z.2.2.1, z.2.2.2.2.1, z.2.2.2.2.2) (Option.some.inj hf).symm
  · have hf := oneg c606 hf
    refine g_aload_n X dX7_best_107 2 rfl rfl ?_
    refine g_iload X dX7_best_108 8 rfl ?_
    obtain ⟨n592, hf⟩ := oguard hf
    refine g_iaload X dX7_best_110 5 0 rfl rfl n592 ?_
    refine g_iload X dX7_best_111 3 rfl ?_
    refine g_icmp_ge X 195 dX7_best_113 (by decide) (fun c605 => ?_) (fun c605 => ?_)
    · have hf := opos c605 hf
      refine g_sub [0, 1, 2, 3, 4, 5, 6, 7] (lv' := [(0, .ref h0), (2, .int x2), (3, .ref h8), (4, .int x4), (5, .int z.1), (6, .int z.2.1), (7, .int z.2.2.1), (8, .int x8)]) rfl ?_
      exact K2 (z.1, z.2.1, z.2.2.1, z.2.2.2.2.1, z.2.2.2.2.2) (Option.some.inj hf).symm
    · have hf := oneg c605 hf
      refine g_aload_n X dX7_best_116 2 rfl rfl ?_
      refine g_iload X dX7_best_117 7 rfl ?_
      obtain ⟨n593, hf⟩ := oguard hf
      refine g_iaload X dX7_best_119 5 0 rfl rfl n593 ?_
      refine g_aload_n X dX7_best_120 2 rfl rfl ?_
      refine g_iload X dX7_best_121 8 rfl ?_
      obtain ⟨n594, hf⟩ := oguard hf
      refine g_iaload X dX7_best_123 5 0 rfl rfl n594 ?_
      refine g_iand X dX7_best_124 ?_
      refine g_if_eq X 131 dX7_best_125 (by decide) (fun c604 => ?_) (fun c604 => ?_)
      · have hf := opos c604 hf
        refine g_aload_n X dX7_best_131 0 rfl rfl ?_
        refine g_get X dX7_best_132 ck_X7 0 0 1 rfl rfl (Nat.le_of_ble_eq_true rfl) lkf_X7_19 rfl ?_
        refine g_aload_n X dX7_best_135 2 rfl rfl ?_
        refine g_iload X dX7_best_136 7 rfl ?_
        obtain ⟨n595, hf⟩ := oguard hf
        refine g_iaload X dX7_best_138 5 0 rfl rfl n595 ?_
        refine g_aload_n X dX7_best_139 2 rfl rfl ?_
        refine g_iload X dX7_best_140 8 rfl ?_
        obtain ⟨n596, hf⟩ := oguard hf
        refine g_iaload X dX7_best_142 5 0 rfl rfl n596 ?_
        refine g_aload_n X dX7_best_143 0 rfl rfl ?_
        refine g_get X dX7_best_144 ck_X7 0 0 6 rfl rfl (Nat.le_of_ble_eq_true rfl) lkf_X7_46 rfl ?_
        obtain ⟨q597, hq597, hf⟩ := obind hf
        refine g_callV (gs' := [FP h0 h1 h2 h3 h4 h5 h6 h7 h8 h9, TB cy h2 a1 a2 a3 v1, SU cy a2 a4 v2, SC a3 q597.1, TA h7 q597.2, AI cy 12 h8 v14, AI cy 66 h9 v15]) (rest := []) X dX7_best_147 (c_X4_foresee l D cy ad h2 a1 a2 a3 a4 h7 v1 v2 z.2.2.2.2.1 z.2.2.2.2.2 (v14 x8.toNatClampNeg) (v14 z.2.2.2.1.toNatClampNeg) hq597) mf_X4_foresee mv_X4_foresee lkm_X7_258 ⟨(Nat.le_of_ble_eq_true rfl), (Nat.le_of_ble_eq_true rfl), (Nat.le_of_ble_eq_true rfl), (Nat.le_of_ble_eq_true rfl)⟩ 1 0 rfl rfl rfl rfl [1, 2, 3, 4, 0, 5, 6] _ (by decide : [1, 2, 3, 4, 0, 5, 6].Perm (List.range 7)) rfl (by decide : [1, 2, 3, 4, 0, 5, 6].Perm (List.range 7)) rfl (Nat.le_of_ble_eq_true rfl) rfl ?_
        refine g_iload X dX7_best_150 6 rfl ?_
        refine g_iconst X (-1 : Int32) dX7_best_152 (by decide) ?_
        refine g_icmp_eq X 168 dX7_best_153 (by decide) (fun c603 => ?_) (fun c603 => ?_)
        · have hf := opos c603 hf
          refine g_sub [0, 1, 2, 3, 7, 8] (lv' := [(0, .ref h0), (2, .int x2), (3, .ref h8), (4, .int x4), (8, .int x8), (9, .int z.2.2.2.1)]) rfl ?_
          exact j_X7_best_B100v1_b168 X hr hne hfl v1 v2 q597.1 q597.2 v14 v15 x2 x4 x8 z.2.2.2.1 hf K1 K2
        · have hf := oneg c603 hf
          refine g_aload_n X dX7_best_156 0 rfl rfl ?_
          refine g_get X dX7_best_157 ck_X7 0 0 6 rfl rfl (Nat.le_of_ble_eq_true rfl) lkf_X7_46 rfl ?_
          obtain ⟨q601, hq601, hf⟩ := obind hf
          refine g_callV (gs' := [FP h0 h1 h2 h3 h4 h5 h6 h7 h8 h9, TB cy h2 a1 a2 a3 v1, SU cy a2 a4 v2, SC a3 q597.1, TA h7 q597.2, AI cy 12 h8 v14, AI cy 66 h9 v15]) (rest := []) X dX7_best_160 (c_X5_worst l D cy ad h7 q597.2 hq601) mf_X5_worst mv_X5_worst lkm_X7_269 ⟨(Nat.le_of_ble_eq_true rfl), (Nat.le_of_ble_eq_true rfl), (Nat.le_of_ble_eq_true rfl), (Nat.le_of_ble_eq_true rfl)⟩ 4 0 rfl rfl rfl rfl [4, 0, 1, 2, 3, 5, 6] _ (by decide : [4, 0, 1, 2, 3, 5, 6].Perm (List.range 7)) rfl (by decide : [4, 0, 1, 2, 3, 5, 6].Perm (List.range 7)) rfl (Nat.le_of_ble_eq_true rfl) rfl ?_
          refine g_iload X dX7_best_163 6 rfl ?_
          refine g_icmp_ge X 189 dX7_best_165 (by decide) (fun c602 => ?_) (fun c602 => ?_)
          · have hf := opos c602 hf
            exact j_X7_best_B100v1_b189 X hr hne hfl v1 v2 q597.1 q597.2 v14 v15 x2 x4 z.1 z.2.1 z.2.2.1 x8 z.2.2.2.1 hf K1 K2
          · have hf := oneg c602 hf
            refine g_sub [0, 1, 2, 3, 7, 8] (lv' := [(0, .ref h0), (2, .int x2), (3, .ref h8), (4, .int x4), (8, .int x8), (9, .int z.2.2.2.1)]) rfl ?_
            exact j_X7_best_B100v1_b168 X hr hne hfl v1 v2 q597.1 q597.2 v14 v15 x2 x4 x8 z.2.2.2.1 hf K1 K2
      · have hf := oneg c604 hf
        refine g_goto X 189 dX7_best_128 (by decide) ?_
        exact j_X7_best_B100v1_b189 X hr hne hfl v1 v2 z.2.2.2.2.1 z.2.2.2.2.2 v14 v15 x2 x4 z.1 z.2.1 z.2.2.1 x8 z.2.2.2.1 hf K1 K2
set_option maxRecDepth 100000 in
set_option maxHeartbeats 4000000 in
theorem w_X7_best_B100v1 {p : Program} {l : Launch} {e : Env} {s : State} {m : MethodId} {args : Array Value} {below : List Frame} {meth : Method} {c : Code} {A : Nat → Prop} {D : va_G} {cy : Nat → ClassId} {ad : (Nat → Nat) × (Nat → Nat)} {Q : State → Prop} (X : gK p s m args meth c A D cy ad cX7_best 10 RX7) (hr : meth.sig.returnType = (some .int)) (hne : ∀ x ∈ c.exceptionTable.toList, False) (hfl : l.stackTraces = false) {h0 h1 h2 h3 h4 h5 h6 h7 h8 h9 a1 a2 a3 a4 : Nat} (v1 : TBv) (v2 : Fn) (v14 : Fn) (v15 : Fn) (x2 : Int32) (x4 : Int32) (x8 : Int32) {n : Nat} {z : Int32 × Int32 × Int32 × Int32 × SCv × TAv} {q : (Int32 × Int32 × Int32 × SCv × TAv)} (hf : itl (f_X7_best_B100v1 v1 v2 v14 v15 x2 x4 x8) n z = some q) (K2 : GW p l e rmX7_best s m args below meth c A D 10 0 0 Q 195 [(0, .ref h0), (2, .int x2), (3, .ref h8), (4, .int x4), (5, .int q.1), (6, .int q.2.1), (7, .int q.2.2.1), (8, .int x8)] [] [FP h0 h1 h2 h3 h4 h5 h6 h7 h8 h9, TB cy h2 a1 a2 a3 v1, SU cy a2 a4 v2, SC a3 q.2.2.2.1, TA h7 q.2.2.2.2, AI cy 12 h8 v14, AI cy 66 h9 v15]) : GW p l e rmX7_best s m args below meth c A D 10 0 0 Q 100 [(0, .ref h0), (2, .int x2), (3, .ref h8), (4, .int x4), (5, .int z.1), (6, .int z.2.1), (7, .int z.2.2.1), (8, .int x8), (9, .int z.2.2.2.1)] [] [FP h0 h1 h2 h3 h4 h5 h6 h7 h8 h9, TB cy h2 a1 a2 a3 v1, SU cy a2 a4 v2, SC a3 z.2.2.2.2.1, TA h7 z.2.2.2.2.2, AI cy 12 h8 v14, AI cy 66 h9 v15] :=
  itl_ind (f := f_X7_best_B100v1 v1 v2 v14 v15 x2 x4 x8) (I := fun z => GW p l e rmX7_best s m args below meth c A D 10 0 0 Q 100 [(0, .ref h0), (2, .int x2), (3, .ref h8), (4, .int x4), (5, .int z.1), (6, .int z.2.1), (7, .int z.2.2.1), (8, .int x8), (9, .int z.2.2.2.1)] [] [FP h0 h1 h2 h3 h4 h5 h6 h7 h8 h9, TB cy h2 a1 a2 a3 v1, SU cy a2 a4 v2, SC a3 z.2.2.2.2.1, TA h7 z.2.2.2.2.2, AI cy 12 h8 v14, AI cy 66 h9 v15]) (J := (fun q => GW p l e rmX7_best s m args below meth c A D 10 0 0 Q 195 [(0, .ref h0), (2, .int x2), (3, .ref h8), (4, .int x4), (5, .int q.1), (6, .int q.2.1), (7, .int q.2.2.1), (8, .int x8)] [] [FP h0 h1 h2 h3 h4 h5 h6 h7 h8 h9, TB cy h2 a1 a2 a3 v1, SU cy a2 a4 v2, SC a3 q.2.2.2.1, TA h7 q.2.2.2.2, AI cy 12 h8 v14, AI cy 66 h9 v15])) (fun z x h k1 k2 => b_X7_best_B100v1 X hr hne hfl v1 v2 v14 v15 x2 x4 x8 z h (fun s' hs => k1 s' hs) (fun e' he => k2 e' he)) n z q hf K2
def f_X7_best_B81v1_b195 (v1 : TBv) (v2 : Fn) (v3 : SCv) (v13 : TAv) (v14 : Fn) (v15 : Fn) (x2 : Int32) (x4 : Int32) (x5 : Int32) (x6 : Int32) (x7 : Int32) (x8 : Int32) : Option ((Int32 × Int32 × Int32 × Int32 × SCv × TAv) ⊕ ((Int32 × Int32 × Int32 × SCv × TAv))) :=
  some (.inl (x5, x6, x7, (x8 + (1 : Int32)), v3, v13))
set_option maxRecDepth 100000 in
set_option maxHeartbeats 4000000 in
theorem j_X7_best_B81v1_b195 {p : Program} {l : Launch} {e : Env} {s : State} {m : MethodId} {args : Array Value} {below : List Frame} {meth : Method} {c : Code} {A : Nat → Prop} {D : va_G} {cy : Nat → ClassId} {ad : (Nat → Nat) × (Nat → Nat)} {Q : State → Prop} (X : gK p s m args meth c A D cy ad cX7_best 10 RX7) (hr : meth.sig.returnType = (some .int)) (hne : ∀ x ∈ c.exceptionTable.toList, False) (hfl : l.stackTraces = false) {h0 h1 h2 h3 h4 h5 h6 h7 h8 h9 a1 a2 a3 a4 : Nat} (v1 : TBv) (v2 : Fn) (v3 : SCv) (v13 : TAv) (v14 : Fn) (v15 : Fn) (x2 : Int32) (x4 : Int32) (x5 : Int32) (x6 : Int32) (x7 : Int32) (x8 : Int32) {q : (Int32 × Int32 × Int32 × Int32 × SCv × TAv) ⊕ ((Int32 × Int32 × Int32 × SCv × TAv))} (hf : f_X7_best_B81v1_b195 v1 v2 v3 v13 v14 v15 x2 x4 x5 x6 x7 x8 = some q) (K1 : ∀ s' : Int32 × Int32 × Int32 × Int32 × SCv × TAv, q = .inl s' → GW p l e rmX7_best s m args below meth c A D 10 0 0 Q 81 [(0, .ref h0), (2, .int x2), (3, .ref h8), (4, .int x4), (5, .int s'.1), (6, .int s'.2.1), (7, .int s'.2.2.1), (8, .int s'.2.2.2.1)] [] [FP h0 h1 h2 h3 h4 h5 h6 h7 h8 h9, TB cy h2 a1 a2 a3 v1, SU cy a2 a4 v2, SC a3 (s'.2.2.2.2.1.1, s'.2.2.2.2.1.2.1, s'.2.2.2.2.1.2.2.1, s'.2.2.2.2.1.2.2.2.1, s'.2.2.2.2.1.2.2.2.2.1, s'.2.2.2.2.1.2.2.2.2.2), TA h7 (s'.2.2.2.2.2.1, s'.2.2.2.2.2.2.1, s'.2.2.2.2.2.2.2), AI cy 12 h8 v14, AI cy 66 h9 v15]) (K2 : ∀ e' : Int32 × Int32 × Int32 × SCv × TAv, q = .inr (e') → GW p l e rmX7_best s m args below meth c A D 10 0 0 Q 201 [(2, .int x2), (5, .int e'.1), (6, .int e'.2.1), (7, .int e'.2.2.1)] [] [FP h0 h1 h2 h3 h4 h5 h6 h7 h8 h9, TB cy h2 a1 a2 a3 v1, SU cy a2 a4 v2, SC a3 (e'.2.2.2.1.1, e'.2.2.2.1.2.1, e'.2.2.2.1.2.2.1, e'.2.2.2.1.2.2.2.1, e'.2.2.2.1.2.2.2.2.1, e'.2.2.2.1.2.2.2.2.2), TA h7 (e'.2.2.2.2.1, e'.2.2.2.2.2.1, e'.2.2.2.2.2.2), AI cy 12 h8 v14, AI cy 66 h9 v15]) : GW p l e rmX7_best s m args below meth c A D 10 0 0 Q 195 [(0, .ref h0), (2, .int x2), (3, .ref h8), (4, .int x4), (5, .int x5), (6, .int x6), (7, .int x7), (8, .int x8)] [] [FP h0 h1 h2 h3 h4 h5 h6 h7 h8 h9, TB cy h2 a1 a2 a3 v1, SU cy a2 a4 v2, SC a3 v3, TA h7 v13, AI cy 12 h8 v14, AI cy 66 h9 v15] := by
  unfold f_X7_best_B81v1_b195 at hf
  refine g_iinc (lv' := [(0, .ref h0), (2, .int x2), (3, .ref h8), (4, .int x4), (5, .int x5), (6, .int x6), (7, .int x7), (8, .int (x8 + (1 : Int32)))]) (v := (1 : Int32)) X dX7_best_195 7 rfl (by decide) [1, 2, 3, 4, 5, 6, 7, 0] (Nat.le_of_ble_eq_true rfl) rfl ?_
  refine g_goto X 81 dX7_best_198 (by decide) ?_
  exact K1 (x5, x6, x7, (x8 + (1 : Int32)), v3, v13) (Option.some.inj hf).symm
def f_X7_best_B81v1 (v1 : TBv) (v2 : Fn) (v14 : Fn) (v15 : Fn) (x2 : Int32) (x4 : Int32) (z : Int32 × Int32 × Int32 × Int32 × SCv × TAv) : Option ((Int32 × Int32 × Int32 × Int32 × SCv × TAv) ⊕ ((Int32 × Int32 × Int32 × SCv × TAv))) :=
  if (12 : Int32) ≤ z.2.2.2.1 then some (.inr ((z.1, z.2.1, z.2.2.1, z.2.2.2.2.1, z.2.2.2.2.2))) else if z.2.2.2.1 < 0 ∨ 12 ≤ z.2.2.2.1.toNatClampNeg then none else if x4 ≤ (v14 z.2.2.2.1.toNatClampNeg) then some (.inr ((z.1, z.2.1, z.2.2.1, z.2.2.2.2.1, z.2.2.2.2.2))) else (itl (f_X7_best_B100v1 v1 v2 v14 v15 x2 x4 z.2.2.2.1) FU (z.1, z.2.1, z.2.2.1, (0 : Int32), z.2.2.2.2.1, z.2.2.2.2.2)).bind (fun q607 => f_X7_best_B81v1_b195 v1 v2 q607.2.2.2.1 q607.2.2.2.2 v14 v15 x2 x4 q607.1 q607.2.1 q607.2.2.1 z.2.2.2.1)
set_option maxRecDepth 100000 in
set_option maxHeartbeats 4000000 in
theorem b_X7_best_B81v1 {p : Program} {l : Launch} {e : Env} {s : State} {m : MethodId} {args : Array Value} {below : List Frame} {meth : Method} {c : Code} {A : Nat → Prop} {D : va_G} {cy : Nat → ClassId} {ad : (Nat → Nat) × (Nat → Nat)} {Q : State → Prop} (X : gK p s m args meth c A D cy ad cX7_best 10 RX7) (hr : meth.sig.returnType = (some .int)) (hne : ∀ x ∈ c.exceptionTable.toList, False) (hfl : l.stackTraces = false) {h0 h1 h2 h3 h4 h5 h6 h7 h8 h9 a1 a2 a3 a4 : Nat} (v1 : TBv) (v2 : Fn) (v14 : Fn) (v15 : Fn) (x2 : Int32) (x4 : Int32) (z : Int32 × Int32 × Int32 × Int32 × SCv × TAv) {q : (Int32 × Int32 × Int32 × Int32 × SCv × TAv) ⊕ ((Int32 × Int32 × Int32 × SCv × TAv))} (hf : f_X7_best_B81v1 v1 v2 v14 v15 x2 x4 z = some q) (K1 : ∀ s' : Int32 × Int32 × Int32 × Int32 × SCv × TAv, q = .inl s' → GW p l e rmX7_best s m args below meth c A D 10 0 0 Q 81 [(0, .ref h0), (2, .int x2), (3, .ref h8), (4, .int x4), (5, .int s'.1), (6, .int s'.2.1), (7, .int s'.2.2.1), (8, .int s'.2.2.2.1)] [] [FP h0 h1 h2 h3 h4 h5 h6 h7 h8 h9, TB cy h2 a1 a2 a3 v1, SU cy a2 a4 v2, SC a3 (s'.2.2.2.2.1.1, s'.2.2.2.2.1.2.1, s'.2.2.2.2.1.2.2.1, s'.2.2.2.2.1.2.2.2.1, s'.2.2.2.2.1.2.2.2.2.1, s'.2.2.2.2.1.2.2.2.2.2), TA h7 (s'.2.2.2.2.2.1, s'.2.2.2.2.2.2.1, s'.2.2.2.2.2.2.2), AI cy 12 h8 v14, AI cy 66 h9 v15]) (K2 : ∀ e' : Int32 × Int32 × Int32 × SCv × TAv, q = .inr (e') → GW p l e rmX7_best s m args below meth c A D 10 0 0 Q 201 [(2, .int x2), (5, .int e'.1), (6, .int e'.2.1), (7, .int e'.2.2.1)] [] [FP h0 h1 h2 h3 h4 h5 h6 h7 h8 h9, TB cy h2 a1 a2 a3 v1, SU cy a2 a4 v2, SC a3 (e'.2.2.2.1.1, e'.2.2.2.1.2.1, e'.2.2.2.1.2.2.1, e'.2.2.2.1.2.2.2.1, e'.2.2.2.1.2.2.2.2.1, e'.2.2.2.1.2.2.2.2.2), TA h7 (e'.2.2.2.2.1, e'.2.2.2.2.2.1, e'.2.2.2.2.2.2), AI cy 12 h8 v14, AI cy 66 h9 v15]) : GW p l e rmX7_best s m args below meth c A D 10 0 0 Q 81 [(0, .ref h0), (2, .int x2), (3, .ref h8), (4, .int x4), (5, .int z.1), (6, .int z.2.1), (7, .int z.2.2.1), (8, .int z.2.2.2.1)] [] [FP h0 h1 h2 h3 h4 h5 h6 h7 h8 h9, TB cy h2 a1 a2 a3 v1, SU cy a2 a4 v2, SC a3 z.2.2.2.2.1, TA h7 z.2.2.2.2.2, AI cy 12 h8 v14, AI cy 66 h9 v15] := by
  unfold f_X7_best_B81v1 at hf
  refine g_iload X dX7_best_81 7 rfl ?_
  refine g_aload_n X dX7_best_83 2 rfl rfl ?_
  refine g_alen0 (v := (12 : Int32)) X dX7_best_84 5 0 rfl rfl (by decide : Int32.ofNat 12 = (12 : Int32)) ?_
  refine g_icmp_ge X 201 dX7_best_85 (by decide) (fun c609 => ?_) (fun c609 => ?_)
  · have hf := opos c609 hf
    refine g_sub [1, 4, 5, 6] (lv' := [(2, .int x2), (5, .int z.1), (6, .int z.2.1), (7, .int z.2.2.1)]) rfl ?_
    exact K2 (z.1, z.2.1, z.2.2.1, z.2.2.2.2.1, z.2.2.2.2.2) (Option.some.inj hf).symm
  · have hf := oneg c609 hf
    refine g_aload_n X dX7_best_88 2 rfl rfl ?_
    refine g_iload X dX7_best_89 7 rfl ?_
    obtain ⟨n591, hf⟩ := oguard hf
    refine g_iaload X dX7_best_91 5 0 rfl rfl n591 ?_
    refine g_iload X dX7_best_92 3 rfl ?_
    refine g_icmp_ge X 201 dX7_best_94 (by decide) (fun c608 => ?_) (fun c608 => ?_)
    · have hf := opos c608 hf
      refine g_sub [1, 4, 5, 6] (lv' := [(2, .int x2), (5, .int z.1), (6, .int z.2.1), (7, .int z.2.2.1)]) rfl ?_
      exact K2 (z.1, z.2.1, z.2.2.1, z.2.2.2.2.1, z.2.2.2.2.2) (Option.some.inj hf).symm
    · have hf := oneg c608 hf
      refine g_iconst X (0 : Int32) dX7_best_97 (by decide) ?_
      refine g_istore (lv' := [(0, .ref h0), (2, .int x2), (3, .ref h8), (4, .int x4), (5, .int z.1), (6, .int z.2.1), (7, .int z.2.2.1), (8, .int z.2.2.2.1), (9, .int (0 : Int32))]) X dX7_best_98 [1, 2, 3, 4, 5, 6, 7, 8, 0] (Nat.le_of_ble_eq_true rfl) rfl ?_
      obtain ⟨q607, hq607, hf⟩ := obind hf
      refine w_X7_best_B100v1 X hr hne hfl v1 v2 v14 v15 x2 x4 z.2.2.2.1 hq607 ?_
      exact j_X7_best_B81v1_b195 X hr hne hfl v1 v2 q607.2.2.2.1 q607.2.2.2.2 v14 v15 x2 x4 q607.1 q607.2.1 q607.2.2.1 z.2.2.2.1 hf K1 K2
set_option maxRecDepth 100000 in
set_option maxHeartbeats 4000000 in
theorem w_X7_best_B81v1 {p : Program} {l : Launch} {e : Env} {s : State} {m : MethodId} {args : Array Value} {below : List Frame} {meth : Method} {c : Code} {A : Nat → Prop} {D : va_G} {cy : Nat → ClassId} {ad : (Nat → Nat) × (Nat → Nat)} {Q : State → Prop} (X : gK p s m args meth c A D cy ad cX7_best 10 RX7) (hr : meth.sig.returnType = (some .int)) (hne : ∀ x ∈ c.exceptionTable.toList, False) (hfl : l.stackTraces = false) {h0 h1 h2 h3 h4 h5 h6 h7 h8 h9 a1 a2 a3 a4 : Nat} (v1 : TBv) (v2 : Fn) (v14 : Fn) (v15 : Fn) (x2 : Int32) (x4 : Int32) {n : Nat} {z : Int32 × Int32 × Int32 × Int32 × SCv × TAv} {q : (Int32 × Int32 × Int32 × SCv × TAv)} (hf : itl (f_X7_best_B81v1 v1 v2 v14 v15 x2 x4) n z = some q) (K2 : GW p l e rmX7_best s m args below meth c A D 10 0 0 Q 201 [(2, .int x2), (5, .int q.1), (6, .int q.2.1), (7, .int q.2.2.1)] [] [FP h0 h1 h2 h3 h4 h5 h6 h7 h8 h9, TB cy h2 a1 a2 a3 v1, SU cy a2 a4 v2, SC a3 q.2.2.2.1, TA h7 q.2.2.2.2, AI cy 12 h8 v14, AI cy 66 h9 v15]) : GW p l e rmX7_best s m args below meth c A D 10 0 0 Q 81 [(0, .ref h0), (2, .int x2), (3, .ref h8), (4, .int x4), (5, .int z.1), (6, .int z.2.1), (7, .int z.2.2.1), (8, .int z.2.2.2.1)] [] [FP h0 h1 h2 h3 h4 h5 h6 h7 h8 h9, TB cy h2 a1 a2 a3 v1, SU cy a2 a4 v2, SC a3 z.2.2.2.2.1, TA h7 z.2.2.2.2.2, AI cy 12 h8 v14, AI cy 66 h9 v15] :=
  itl_ind (f := f_X7_best_B81v1 v1 v2 v14 v15 x2 x4) (I := fun z => GW p l e rmX7_best s m args below meth c A D 10 0 0 Q 81 [(0, .ref h0), (2, .int x2), (3, .ref h8), (4, .int x4), (5, .int z.1), (6, .int z.2.1), (7, .int z.2.2.1), (8, .int z.2.2.2.1)] [] [FP h0 h1 h2 h3 h4 h5 h6 h7 h8 h9, TB cy h2 a1 a2 a3 v1, SU cy a2 a4 v2, SC a3 z.2.2.2.2.1, TA h7 z.2.2.2.2.2, AI cy 12 h8 v14, AI cy 66 h9 v15]) (J := (fun q => GW p l e rmX7_best s m args below meth c A D 10 0 0 Q 201 [(2, .int x2), (5, .int q.1), (6, .int q.2.1), (7, .int q.2.2.1)] [] [FP h0 h1 h2 h3 h4 h5 h6 h7 h8 h9, TB cy h2 a1 a2 a3 v1, SU cy a2 a4 v2, SC a3 q.2.2.2.1, TA h7 q.2.2.2.2, AI cy 12 h8 v14, AI cy 66 h9 v15])) (fun z x h k1 k2 => b_X7_best_B81v1 X hr hne hfl v1 v2 v14 v15 x2 x4 z h (fun s' hs => k1 s' hs) (fun e' he => k2 e' he)) n z q hf K2
def f_X7_best_b57v1 (v1 : TBv) (v2 : Fn) (v3 : SCv) (v13 : TAv) (v14 : Fn) (v15 : Fn) (x2 : Int32) : Option ((Int32 × SCv × TAv) ⊕ (Nat × SCv × TAv)) :=
  (itl (f_X7_best_B81v1 v1 v2 v14 v15 x2 ((1 : Int32) <<< (v1.1 &&& 31))) FU ((-1 : Int32), (-1 : Int32), (-1 : Int32), (0 : Int32), v3, v13)).bind (fun q610 => f_X7_best_b201 v1 v2 q610.2.2.2.1 q610.2.2.2.2 v14 v15 x2 q610.1 q610.2.1 q610.2.2.1)
set_option maxRecDepth 100000 in
set_option maxHeartbeats 4000000 in
theorem j_X7_best_b57v1 {p : Program} {l : Launch} {e : Env} {s : State} {m : MethodId} {args : Array Value} {below : List Frame} {meth : Method} {c : Code} {A : Nat → Prop} {D : va_G} {cy : Nat → ClassId} {ad : (Nat → Nat) × (Nat → Nat)} (X : gK p s m args meth c A D cy ad cX7_best 10 RX7) (hr : meth.sig.returnType = (some .int)) (hne : ∀ x ∈ c.exceptionTable.toList, False) (hfl : l.stackTraces = false) {h0 h1 h2 h3 h4 h5 h6 h7 h8 h9 a1 a2 a3 a4 : Nat} (v1 : TBv) (v2 : Fn) (v3 : SCv) (v13 : TAv) (v14 : Fn) (v15 : Fn) (x2 : Int32) {q : (Int32 × SCv × TAv) ⊕ (Nat × SCv × TAv)} (hf : f_X7_best_b57v1 v1 v2 v3 v13 v14 v15 x2 = some q) : GW p l e rmX7_best s m args below meth c A D 10 0 0 (vx_MQ below (xmQ D cy A (Sum.elim (fun q => Sum.inl ((some (.int q.1)), [FP h0 h1 h2 h3 h4 h5 h6 h7 h8 h9, TB cy h2 a1 a2 a3 v1, SU cy a2 a4 v2, SC a3 q.2.1, TA h7 q.2.2, AI cy 12 h8 v14, AI cy 66 h9 v15])) (fun q => Sum.inr (q.1, [FP h0 h1 h2 h3 h4 h5 h6 h7 h8 h9, TB cy h2 a1 a2 a3 v1, SU cy a2 a4 v2, SC a3 q.2.1, TA h7 q.2.2, AI cy 12 h8 v14, AI cy 66 h9 v15])) q : xRes)) (xmX D cy A (Sum.elim (fun q => Sum.inl ((some (.int q.1)), [FP h0 h1 h2 h3 h4 h5 h6 h7 h8 h9, TB cy h2 a1 a2 a3 v1, SU cy a2 a4 v2, SC a3 q.2.1, TA h7 q.2.2, AI cy 12 h8 v14, AI cy 66 h9 v15])) (fun q => Sum.inr (q.1, [FP h0 h1 h2 h3 h4 h5 h6 h7 h8 h9, TB cy h2 a1 a2 a3 v1, SU cy a2 a4 v2, SC a3 q.2.1, TA h7 q.2.2, AI cy 12 h8 v14, AI cy 66 h9 v15])) q : xRes)) args s 1 6 A) 57 [(0, .ref h0), (2, .int x2)] [.ref h8] [FP h0 h1 h2 h3 h4 h5 h6 h7 h8 h9, TB cy h2 a1 a2 a3 v1, SU cy a2 a4 v2, SC a3 v3, TA h7 v13, AI cy 12 h8 v14, AI cy 66 h9 v15] := by
  unfold f_X7_best_b57v1 at hf
  refine g_astore_n (lv' := [(0, .ref h0), (2, .int x2), (3, .ref h8)]) X dX7_best_57 [1, 2, 0] rfl (Nat.le_of_ble_eq_true rfl) rfl ?_
  refine g_iconst X (1 : Int32) dX7_best_58 (by decide) ?_
  refine g_aload_n X dX7_best_59 0 rfl rfl ?_
  refine g_get X dX7_best_60 ck_X7 0 0 1 rfl rfl (Nat.le_of_ble_eq_true rfl) lkf_X7_19 rfl ?_
  refine g_get X dX7_best_63 ck_X4 1 0 0 rfl rfl (Nat.le_of_ble_eq_true rfl) lkf_X7_145 rfl ?_
  refine g_ishl X dX7_best_66 ?_
  refine g_istore (lv' := [(0, .ref h0), (2, .int x2), (3, .ref h8), (4, .int ((1 : Int32) <<< (v1.1 &&& 31)))]) X dX7_best_67 [1, 2, 3, 0] (Nat.le_of_ble_eq_true rfl) rfl ?_
  refine g_iconst X (-1 : Int32) dX7_best_69 (by decide) ?_
  refine g_istore (lv' := [(0, .ref h0), (2, .int x2), (3, .ref h8), (4, .int ((1 : Int32) <<< (v1.1 &&& 31))), (5, .int (-1 : Int32))]) X dX7_best_70 [1, 2, 3, 4, 0] (Nat.le_of_ble_eq_true rfl) rfl ?_
  refine g_iconst X (-1 : Int32) dX7_best_72 (by decide) ?_
  refine g_istore (lv' := [(0, .ref h0), (2, .int x2), (3, .ref h8), (4, .int ((1 : Int32) <<< (v1.1 &&& 31))), (5, .int (-1 : Int32)), (6, .int (-1 : Int32))]) X dX7_best_73 [1, 2, 3, 4, 5, 0] (Nat.le_of_ble_eq_true rfl) rfl ?_
  refine g_iconst X (-1 : Int32) dX7_best_75 (by decide) ?_
  refine g_istore (lv' := [(0, .ref h0), (2, .int x2), (3, .ref h8), (4, .int ((1 : Int32) <<< (v1.1 &&& 31))), (5, .int (-1 : Int32)), (6, .int (-1 : Int32)), (7, .int (-1 : Int32))]) X dX7_best_76 [1, 2, 3, 4, 5, 6, 0] (Nat.le_of_ble_eq_true rfl) rfl ?_
  refine g_iconst X (0 : Int32) dX7_best_78 (by decide) ?_
  refine g_istore (lv' := [(0, .ref h0), (2, .int x2), (3, .ref h8), (4, .int ((1 : Int32) <<< (v1.1 &&& 31))), (5, .int (-1 : Int32)), (6, .int (-1 : Int32)), (7, .int (-1 : Int32)), (8, .int (0 : Int32))]) X dX7_best_79 [1, 2, 3, 4, 5, 6, 7, 0] (Nat.le_of_ble_eq_true rfl) rfl ?_
  obtain ⟨q610, hq610, hf⟩ := obind hf
  refine w_X7_best_B81v1 X hr hne hfl v1 v2 v14 v15 x2 ((1 : Int32) <<< (v1.1 &&& 31)) hq610 ?_
  exact j_X7_best_b201 X hr hne hfl v1 v2 q610.2.2.2.1 q610.2.2.2.2 v14 v15 x2 q610.1 q610.2.1 q610.2.2.1 hf
def f_X7_best (v1 : TBv) (v2 : Fn) (v3 : SCv) (v13 : TAv) (v14 : Fn) (v15 : Fn) (p1 : Int32) (p2 : Int32) : Option ((Int32 × SCv × TAv) ⊕ (Nat × SCv × TAv)) :=
  if p1 < (1 : Int32) then f_X7_best_b10 v1 v2 v3 v13 v14 v15 else if p1 ≤ (2 : Int32) then if p2 < 0 then f_X7_best_b30 v1 v2 v3 v13 v14 v15 else if p2 ≤ (2 : Int32) then if p1 = (1 : Int32) then f_X7_best_b57v1 v1 v2 v3 v13 v14 v15 p2 else f_X7_best_b57 v1 v2 v3 v13 v14 v15 p2 else f_X7_best_b30 v1 v2 v3 v13 v14 v15 else f_X7_best_b10 v1 v2 v3 v13 v14 v15
set_option maxRecDepth 100000 in
set_option maxHeartbeats 4000000 in
theorem c_X7_best (l : Launch) (D : va_G) (cy : Nat → ClassId) (ad : (Nat → Nat) × (Nat → Nat)) (h0 : Nat) (h1 : Nat) (h2 : Nat) (h3 : Nat) (h4 : Nat) (h5 : Nat) (h6 : Nat) (h7 : Nat) (h8 : Nat) (h9 : Nat) (a1 : Nat) (a2 : Nat) (a3 : Nat) (a4 : Nat) (v1 : TBv) (v2 : Fn) (v3 : SCv) (v13 : TAv) (v14 : Fn) (v15 : Fn) (p1 : Int32) (p2 : Int32) (hfl : l.stackTraces = false) {q : (Int32 × SCv × TAv) ⊕ (Nat × SCv × TAv)} (hf : f_X7_best v1 v2 v3 v13 v14 v15 p1 p2 = some q) : XM l yX7_best cX7_best 10 (some .int) rmX7_best D cy ad [.ref h0, .int p1, .int p2] [FP h0 h1 h2 h3 h4 h5 h6 h7 h8 h9, TB cy h2 a1 a2 a3 v1, SU cy a2 a4 v2, SC a3 v3, TA h7 v13, AI cy 12 h8 v14, AI cy 66 h9 v15] (Sum.elim (fun q => Sum.inl ((some (.int q.1)), [FP h0 h1 h2 h3 h4 h5 h6 h7 h8 h9, TB cy h2 a1 a2 a3 v1, SU cy a2 a4 v2, SC a3 q.2.1, TA h7 q.2.2, AI cy 12 h8 v14, AI cy 66 h9 v15])) (fun q => Sum.inr (q.1, [FP h0 h1 h2 h3 h4 h5 h6 h7 h8 h9, TB cy h2 a1 a2 a3 v1, SU cy a2 a4 v2, SC a3 q.2.1, TA h7 q.2.2, AI cy 12 h8 v14, AI cy 66 h9 v15])) q : xRes) := by
  refine xm_of (lv0 := [(0, .ref h0), (1, .int p1), (2, .int p2)]) (by decide) (Nat.le_of_ble_eq_true rfl) rfl ?_
  intro p e s m args below meth c A X hr hne
  have X : gK p s m args meth c A D cy ad cX7_best 10 RX7 := X
  unfold f_X7_best at hf
  refine g_iload_n X dX7_best_0 1 rfl rfl ?_
  refine g_iconst X (1 : Int32) dX7_best_1 (by decide) ?_
  refine g_icmp_lt X 10 dX7_best_2 (by decide) (fun c615 => ?_) (fun c615 => ?_)
  · have hf := opos c615 hf
    refine g_sub [] (lv' := []) rfl ?_
    exact j_X7_best_b10 X hr hne hfl v1 v2 v3 v13 v14 v15 hf
  · have hf := oneg c615 hf
    refine g_iload_n X dX7_best_5 1 rfl rfl ?_
    refine g_iconst X (2 : Int32) dX7_best_6 (by decide) ?_
    refine g_icmp_le X 21 dX7_best_7 (by decide) (fun c614 => ?_) (fun c614 => ?_)
    · have hf := opos c614 hf
      refine g_iload_n X dX7_best_21 2 rfl rfl ?_
      refine g_if_lt X 30 dX7_best_22 (by decide) (fun c613 => ?_) (fun c613 => ?_)
      · have hf := opos c613 hf
        refine g_sub [] (lv' := []) rfl ?_
        exact j_X7_best_b30 X hr hne hfl v1 v2 v3 v13 v14 v15 hf
      · have hf := oneg c613 hf
        refine g_iload_n X dX7_best_25 2 rfl rfl ?_
        refine g_iconst X (2 : Int32) dX7_best_26 (by decide) ?_
        refine g_icmp_le X 41 dX7_best_27 (by decide) (fun c612 => ?_) (fun c612 => ?_)
        · have hf := opos c612 hf
          refine g_iload_n X dX7_best_41 1 rfl rfl ?_
          refine g_iconst X (1 : Int32) dX7_best_42 (by decide) ?_
          refine g_icmp_ne X 53 dX7_best_43 (by decide) (fun c611 => ?_) (fun c611 => ?_)
          · have hf := oneg c611 hf
            refine g_aload_n X dX7_best_53 0 rfl rfl ?_
            refine g_get X dX7_best_54 ck_X7 0 0 8 rfl rfl (Nat.le_of_ble_eq_true rfl) lkf_X7_61 rfl ?_
            refine g_sub [0, 2] (lv' := [(0, .ref h0), (2, .int p2)]) rfl ?_
            exact j_X7_best_b57 X hr hne hfl v1 v2 v3 v13 v14 v15 p2 hf
          · have hf := opos c611 hf
            refine g_aload_n X dX7_best_46 0 rfl rfl ?_
            refine g_get X dX7_best_47 ck_X7 0 0 7 rfl rfl (Nat.le_of_ble_eq_true rfl) lkf_X7_54 rfl ?_
            refine g_goto X 57 dX7_best_50 (by decide) ?_
            refine g_sub [0, 2] (lv' := [(0, .ref h0), (2, .int p2)]) rfl ?_
            exact j_X7_best_b57v1 X hr hne hfl v1 v2 v3 v13 v14 v15 p2 hf
        · have hf := oneg c612 hf
          refine g_sub [] (lv' := []) rfl ?_
          exact j_X7_best_b30 X hr hne hfl v1 v2 v3 v13 v14 v15 hf
    · have hf := oneg c614 hf
      refine g_sub [] (lv' := []) rfl ?_
      exact j_X7_best_b10 X hr hne hfl v1 v2 v3 v13 v14 v15 hf
abbrev rmX7_sharpest : Room := ({ frames := 4, cells := 0, slots := 0, locals := 100 } : Room)
def f_X7_sharpest_B20_b111 (v1 : TBv) (v2 : Fn) (v3 : SCv) (v13 : TAv) (x1 : Int32) (x2 : Int32) (x3 : Int32) (x4 : Int32) : Option ((Int32 × Int32 × Int32 × SCv × TAv) ⊕ ((Int32 × Int32 × SCv × TAv))) :=
  some (.inl (x1, x2, (x4 + (1 : Int32)), v3, v13))
set_option maxRecDepth 100000 in
set_option maxHeartbeats 4000000 in
theorem j_X7_sharpest_B20_b111 {p : Program} {l : Launch} {e : Env} {s : State} {m : MethodId} {args : Array Value} {below : List Frame} {meth : Method} {c : Code} {A : Nat → Prop} {D : va_G} {cy : Nat → ClassId} {ad : (Nat → Nat) × (Nat → Nat)} {Q : State → Prop} (X : gK p s m args meth c A D cy ad cX7_sharpest 5 RX7) (hr : meth.sig.returnType = (some .int)) {h0 h1 h2 h3 h4 h5 h6 h7 h8 h9 a1 a2 a3 a4 : Nat} (v1 : TBv) (v2 : Fn) (v3 : SCv) (v13 : TAv) (x1 : Int32) (x2 : Int32) (x3 : Int32) (x4 : Int32) {q : (Int32 × Int32 × Int32 × SCv × TAv) ⊕ ((Int32 × Int32 × SCv × TAv))} (hf : f_X7_sharpest_B20_b111 v1 v2 v3 v13 x1 x2 x3 x4 = some q) (K1 : ∀ s' : Int32 × Int32 × Int32 × SCv × TAv, q = .inl s' → GW p l e rmX7_sharpest s m args below meth c A D 5 0 0 Q 20 [(0, .ref h0), (1, .int s'.1), (2, .int s'.2.1), (3, .int x3), (4, .int s'.2.2.1)] [] [FP h0 h1 h2 h3 h4 h5 h6 h7 h8 h9, TB cy h2 a1 a2 a3 v1, SU cy a2 a4 v2, SC a3 (s'.2.2.2.1.1, s'.2.2.2.1.2.1, s'.2.2.2.1.2.2.1, s'.2.2.2.1.2.2.2.1, s'.2.2.2.1.2.2.2.2.1, s'.2.2.2.1.2.2.2.2.2), TA h7 (s'.2.2.2.2.1, s'.2.2.2.2.2.1, s'.2.2.2.2.2.2)]) (K2 : ∀ e' : Int32 × Int32 × SCv × TAv, q = .inr (e') → GW p l e rmX7_sharpest s m args below meth c A D 5 0 0 Q 117 [(0, .ref h0), (1, .int e'.1), (2, .int e'.2.1), (3, .int x3)] [] [FP h0 h1 h2 h3 h4 h5 h6 h7 h8 h9, TB cy h2 a1 a2 a3 v1, SU cy a2 a4 v2, SC a3 (e'.2.2.1.1, e'.2.2.1.2.1, e'.2.2.1.2.2.1, e'.2.2.1.2.2.2.1, e'.2.2.1.2.2.2.2.1, e'.2.2.1.2.2.2.2.2), TA h7 (e'.2.2.2.1, e'.2.2.2.2.1, e'.2.2.2.2.2)]) : GW p l e rmX7_sharpest s m args below meth c A D 5 0 0 Q 111 [(0, .ref h0), (1, .int x1), (2, .int x2), (3, .int x3), (4, .int x4)] [] [FP h0 h1 h2 h3 h4 h5 h6 h7 h8 h9, TB cy h2 a1 a2 a3 v1, SU cy a2 a4 v2, SC a3 v3, TA h7 v13] := by
  unfold f_X7_sharpest_B20_b111 at hf
  refine g_iinc (lv' := [(0, .ref h0), (1, .int x1), (2, .int x2), (3, .int x3), (4, .int (x4 + (1 : Int32)))]) (v := (1 : Int32)) X dX7_sharpest_111 4 rfl (by decide) [1, 2, 3, 4, 0] (Nat.le_of_ble_eq_true rfl) rfl ?_
  refine g_goto X 20 dX7_sharpest_114 (by decide) ?_
  exact K1 (x1, x2, (x4 + (1 : Int32)), v3, v13) (Option.some.inj hf).symm
def f_X7_sharpest_B20_b77 (v1 : TBv) (v2 : Fn) (v3 : SCv) (v13 : TAv) (x1 : Int32) (x2 : Int32) (x3 : Int32) (x4 : Int32) (y0 : Int32) (y1 : Int32) : Option ((Int32 × Int32 × Int32 × SCv × TAv) ⊕ ((Int32 × Int32 × SCv × TAv))) :=
  (f_X4_foresee v1 v2 v3 v13 y1 y0).bind (fun q622 => (f_X5_unlikePairs q622.2).bind (fun q623 => if q623 ≤ x1 then f_X7_sharpest_B20_b111 v1 v2 q622.1 q622.2 x1 x2 x3 x4 else (f_X5_unlikePairs q622.2).bind (fun q624 => f_X7_sharpest_B20_b111 v1 v2 q622.1 q622.2 q624 (((100 : Int32) * x3) + x4) x3 x4)))
set_option maxRecDepth 100000 in
set_option maxHeartbeats 4000000 in
theorem j_X7_sharpest_B20_b77 {p : Program} {l : Launch} {e : Env} {s : State} {m : MethodId} {args : Array Value} {below : List Frame} {meth : Method} {c : Code} {A : Nat → Prop} {D : va_G} {cy : Nat → ClassId} {ad : (Nat → Nat) × (Nat → Nat)} {Q : State → Prop} (X : gK p s m args meth c A D cy ad cX7_sharpest 5 RX7) (hr : meth.sig.returnType = (some .int)) {h0 h1 h2 h3 h4 h5 h6 h7 h8 h9 a1 a2 a3 a4 : Nat} (v1 : TBv) (v2 : Fn) (v3 : SCv) (v13 : TAv) (x1 : Int32) (x2 : Int32) (x3 : Int32) (x4 : Int32) (y0 : Int32) (y1 : Int32) {q : (Int32 × Int32 × Int32 × SCv × TAv) ⊕ ((Int32 × Int32 × SCv × TAv))} (hf : f_X7_sharpest_B20_b77 v1 v2 v3 v13 x1 x2 x3 x4 y0 y1 = some q) (K1 : ∀ s' : Int32 × Int32 × Int32 × SCv × TAv, q = .inl s' → GW p l e rmX7_sharpest s m args below meth c A D 5 0 0 Q 20 [(0, .ref h0), (1, .int s'.1), (2, .int s'.2.1), (3, .int x3), (4, .int s'.2.2.1)] [] [FP h0 h1 h2 h3 h4 h5 h6 h7 h8 h9, TB cy h2 a1 a2 a3 v1, SU cy a2 a4 v2, SC a3 (s'.2.2.2.1.1, s'.2.2.2.1.2.1, s'.2.2.2.1.2.2.1, s'.2.2.2.1.2.2.2.1, s'.2.2.2.1.2.2.2.2.1, s'.2.2.2.1.2.2.2.2.2), TA h7 (s'.2.2.2.2.1, s'.2.2.2.2.2.1, s'.2.2.2.2.2.2)]) (K2 : ∀ e' : Int32 × Int32 × SCv × TAv, q = .inr (e') → GW p l e rmX7_sharpest s m args below meth c A D 5 0 0 Q 117 [(0, .ref h0), (1, .int e'.1), (2, .int e'.2.1), (3, .int x3)] [] [FP h0 h1 h2 h3 h4 h5 h6 h7 h8 h9, TB cy h2 a1 a2 a3 v1, SU cy a2 a4 v2, SC a3 (e'.2.2.1.1, e'.2.2.1.2.1, e'.2.2.1.2.2.1, e'.2.2.1.2.2.2.1, e'.2.2.1.2.2.2.2.1, e'.2.2.1.2.2.2.2.2), TA h7 (e'.2.2.2.1, e'.2.2.2.2.1, e'.2.2.2.2.2)]) : GW p l e rmX7_sharpest s m args below meth c A D 5 0 0 Q 77 [(0, .ref h0), (1, .int x1), (2, .int x2), (3, .int x3), (4, .int x4)] [.int y0, .int y1, .ref h2] [FP h0 h1 h2 h3 h4 h5 h6 h7 h8 h9, TB cy h2 a1 a2 a3 v1, SU cy a2 a4 v2, SC a3 v3, TA h7 v13] := by
  unfold f_X7_sharpest_B20_b77 at hf
  refine g_aload_n X dX7_sharpest_77 0 rfl rfl ?_
  refine g_get X dX7_sharpest_78 ck_X7 0 0 6 rfl rfl (Nat.le_of_ble_eq_true rfl) lkf_X7_46 rfl ?_
  obtain ⟨q622, hq622, hf⟩ := obind hf
  refine g_callV (gs' := [FP h0 h1 h2 h3 h4 h5 h6 h7 h8 h9, TB cy h2 a1 a2 a3 v1, SU cy a2 a4 v2, SC a3 q622.1, TA h7 q622.2]) (rest := []) X dX7_sharpest_81 (c_X4_foresee l D cy ad h2 a1 a2 a3 a4 h7 v1 v2 v3 v13 y1 y0 hq622) mf_X4_foresee mv_X4_foresee lkm_X7_258 ⟨(Nat.le_of_ble_eq_true rfl), (Nat.le_of_ble_eq_true rfl), (Nat.le_of_ble_eq_true rfl), (Nat.le_of_ble_eq_true rfl)⟩ 1 0 rfl rfl rfl rfl [1, 2, 3, 4, 0] _ (by decide : [1, 2, 3, 4, 0].Perm (List.range 5)) rfl (by decide : [1, 2, 3, 4, 0].Perm (List.range 5)) rfl (Nat.le_of_ble_eq_true rfl) rfl ?_
  refine g_aload_n X dX7_sharpest_84 0 rfl rfl ?_
  refine g_get X dX7_sharpest_85 ck_X7 0 0 6 rfl rfl (Nat.le_of_ble_eq_true rfl) lkf_X7_46 rfl ?_
  obtain ⟨q623, hq623, hf⟩ := obind hf
  refine g_callV (gs' := [FP h0 h1 h2 h3 h4 h5 h6 h7 h8 h9, TB cy h2 a1 a2 a3 v1, SU cy a2 a4 v2, SC a3 q622.1, TA h7 q622.2]) (rest := []) X dX7_sharpest_88 (c_X5_unlikePairs l D cy ad h7 q622.2 hq623) mf_X5_unlikePairs mv_X5_unlikePairs lkm_X7_272 ⟨(Nat.le_of_ble_eq_true rfl), (Nat.le_of_ble_eq_true rfl), (Nat.le_of_ble_eq_true rfl), (Nat.le_of_ble_eq_true rfl)⟩ 4 0 rfl rfl rfl rfl [4, 0, 1, 2, 3] _ (by decide : [4, 0, 1, 2, 3].Perm (List.range 5)) rfl (by decide : [4, 0, 1, 2, 3].Perm (List.range 5)) rfl (Nat.le_of_ble_eq_true rfl) rfl ?_
  refine g_iload_n X dX7_sharpest_91 1 rfl rfl ?_
  refine g_icmp_le X 111 dX7_sharpest_92 (by decide) (fun c625 => ?_) (fun c625 => ?_)
  · have hf := opos c625 hf
    exact j_X7_sharpest_B20_b111 X hr v1 v2 q622.1 q622.2 x1 x2 x3 x4 hf K1 K2
  · have hf := oneg c625 hf
    refine g_aload_n X dX7_sharpest_95 0 rfl rfl ?_
    refine g_get X dX7_sharpest_96 ck_X7 0 0 6 rfl rfl (Nat.le_of_ble_eq_true rfl) lkf_X7_46 rfl ?_
    obtain ⟨q624, hq624, hf⟩ := obind hf
    refine g_callV (gs' := [FP h0 h1 h2 h3 h4 h5 h6 h7 h8 h9, TB cy h2 a1 a2 a3 v1, SU cy a2 a4 v2, SC a3 q622.1, TA h7 q622.2]) (rest := []) X dX7_sharpest_99 (c_X5_unlikePairs l D cy ad h7 q622.2 hq624) mf_X5_unlikePairs mv_X5_unlikePairs lkm_X7_272 ⟨(Nat.le_of_ble_eq_true rfl), (Nat.le_of_ble_eq_true rfl), (Nat.le_of_ble_eq_true rfl), (Nat.le_of_ble_eq_true rfl)⟩ 4 0 rfl rfl rfl rfl [4, 0, 1, 2, 3] _ (by decide : [4, 0, 1, 2, 3].Perm (List.range 5)) rfl (by decide : [4, 0, 1, 2, 3].Perm (List.range 5)) rfl (Nat.le_of_ble_eq_true rfl) rfl ?_
    refine g_istore_n (lv' := [(0, .ref h0), (1, .int q624), (2, .int x2), (3, .int x3), (4, .int x4)]) X dX7_sharpest_102 [1, 0, 2, 3, 4] rfl (Nat.le_of_ble_eq_true rfl) rfl ?_
    refine g_bipush X (100 : Int32) dX7_sharpest_103 (by decide) ?_
    refine g_iload_n X dX7_sharpest_105 3 rfl rfl ?_
    refine g_imul X dX7_sharpest_106 ?_
    refine g_iload X dX7_sharpest_107 4 rfl ?_
    refine g_iadd X dX7_sharpest_109 ?_
    refine g_istore_n (lv' := [(0, .ref h0), (1, .int q624), (2, .int (((100 : Int32) * x3) + x4)), (3, .int x3), (4, .int x4)]) X dX7_sharpest_110 [1, 2, 0, 3, 4] rfl (Nat.le_of_ble_eq_true rfl) rfl ?_
    exact j_X7_sharpest_B20_b111 X hr v1 v2 q622.1 q622.2 q624 (((100 : Int32) * x3) + x4) x3 x4 hf K1 K2
def f_X7_sharpest_B20_b55 (v1 : TBv) (v2 : Fn) (v3 : SCv) (v13 : TAv) (x1 : Int32) (x2 : Int32) (x3 : Int32) (x4 : Int32) : Option ((Int32 × Int32 × Int32 × SCv × TAv) ⊕ ((Int32 × Int32 × SCv × TAv))) :=
  if (12 : Int32) ≤ x4 then f_X7_sharpest_B20_b77 v1 v2 v3 v13 x1 x2 x3 x4 (0 : Int32) ((1 : Int32) <<< (x3 &&& 31)) else f_X7_sharpest_B20_b77 v1 v2 v3 v13 x1 x2 x3 x4 ((1 : Int32) <<< (x4 &&& 31)) ((1 : Int32) <<< (x3 &&& 31))
set_option maxRecDepth 100000 in
set_option maxHeartbeats 4000000 in
theorem j_X7_sharpest_B20_b55 {p : Program} {l : Launch} {e : Env} {s : State} {m : MethodId} {args : Array Value} {below : List Frame} {meth : Method} {c : Code} {A : Nat → Prop} {D : va_G} {cy : Nat → ClassId} {ad : (Nat → Nat) × (Nat → Nat)} {Q : State → Prop} (X : gK p s m args meth c A D cy ad cX7_sharpest 5 RX7) (hr : meth.sig.returnType = (some .int)) {h0 h1 h2 h3 h4 h5 h6 h7 h8 h9 a1 a2 a3 a4 : Nat} (v1 : TBv) (v2 : Fn) (v3 : SCv) (v13 : TAv) (x1 : Int32) (x2 : Int32) (x3 : Int32) (x4 : Int32) {q : (Int32 × Int32 × Int32 × SCv × TAv) ⊕ ((Int32 × Int32 × SCv × TAv))} (hf : f_X7_sharpest_B20_b55 v1 v2 v3 v13 x1 x2 x3 x4 = some q) (K1 : ∀ s' : Int32 × Int32 × Int32 × SCv × TAv, q = .inl s' → GW p l e rmX7_sharpest s m args below meth c A D 5 0 0 Q 20 [(0, .ref h0), (1, .int s'.1), (2, .int s'.2.1), (3, .int x3), (4, .int s'.2.2.1)] [] [FP h0 h1 h2 h3 h4 h5 h6 h7 h8 h9, TB cy h2 a1 a2 a3 v1, SU cy a2 a4 v2, SC a3 (s'.2.2.2.1.1, s'.2.2.2.1.2.1, s'.2.2.2.1.2.2.1, s'.2.2.2.1.2.2.2.1, s'.2.2.2.1.2.2.2.2.1, s'.2.2.2.1.2.2.2.2.2), TA h7 (s'.2.2.2.2.1, s'.2.2.2.2.2.1, s'.2.2.2.2.2.2)]) (K2 : ∀ e' : Int32 × Int32 × SCv × TAv, q = .inr (e') → GW p l e rmX7_sharpest s m args below meth c A D 5 0 0 Q 117 [(0, .ref h0), (1, .int e'.1), (2, .int e'.2.1), (3, .int x3)] [] [FP h0 h1 h2 h3 h4 h5 h6 h7 h8 h9, TB cy h2 a1 a2 a3 v1, SU cy a2 a4 v2, SC a3 (e'.2.2.1.1, e'.2.2.1.2.1, e'.2.2.1.2.2.1, e'.2.2.1.2.2.2.1, e'.2.2.1.2.2.2.2.1, e'.2.2.1.2.2.2.2.2), TA h7 (e'.2.2.2.1, e'.2.2.2.2.1, e'.2.2.2.2.2)]) : GW p l e rmX7_sharpest s m args below meth c A D 5 0 0 Q 55 [(0, .ref h0), (1, .int x1), (2, .int x2), (3, .int x3), (4, .int x4)] [] [FP h0 h1 h2 h3 h4 h5 h6 h7 h8 h9, TB cy h2 a1 a2 a3 v1, SU cy a2 a4 v2, SC a3 v3, TA h7 v13] := by
  unfold f_X7_sharpest_B20_b55 at hf
  refine g_aload_n X dX7_sharpest_55 0 rfl rfl ?_
  refine g_get X dX7_sharpest_56 ck_X7 0 0 1 rfl rfl (Nat.le_of_ble_eq_true rfl) lkf_X7_19 rfl ?_
  refine g_iconst X (1 : Int32) dX7_sharpest_59 (by decide) ?_
  refine g_iload_n X dX7_sharpest_60 3 rfl rfl ?_
  refine g_ishl X dX7_sharpest_61 ?_
  refine g_iload X dX7_sharpest_62 4 rfl ?_
  refine g_bipush X (12 : Int32) dX7_sharpest_64 (by decide) ?_
  refine g_icmp_ge X 76 dX7_sharpest_66 (by decide) (fun c626 => ?_) (fun c626 => ?_)
  · have hf := opos c626 hf
    refine g_iconst X (0 : Int32) dX7_sharpest_76 (by decide) ?_
    exact j_X7_sharpest_B20_b77 X hr v1 v2 v3 v13 x1 x2 x3 x4 (0 : Int32) ((1 : Int32) <<< (x3 &&& 31)) hf K1 K2
  · have hf := oneg c626 hf
    refine g_iconst X (1 : Int32) dX7_sharpest_69 (by decide) ?_
    refine g_iload X dX7_sharpest_70 4 rfl ?_
    refine g_ishl X dX7_sharpest_72 ?_
    refine g_goto X 77 dX7_sharpest_73 (by decide) ?_
    exact j_X7_sharpest_B20_b77 X hr v1 v2 v3 v13 x1 x2 x3 x4 ((1 : Int32) <<< (x4 &&& 31)) ((1 : Int32) <<< (x3 &&& 31)) hf K1 K2
def f_X7_sharpest_B20 (v1 : TBv) (v2 : Fn) (x3 : Int32) (z : Int32 × Int32 × Int32 × SCv × TAv) : Option ((Int32 × Int32 × Int32 × SCv × TAv) ⊕ ((Int32 × Int32 × SCv × TAv))) :=
  if (12 : Int32) < z.2.2.1 then some (.inr ((z.1, z.2.1, z.2.2.2.1, z.2.2.2.2))) else if z.2.2.1 = x3 then f_X7_sharpest_B20_b111 v1 v2 z.2.2.2.1 z.2.2.2.2 z.1 z.2.1 x3 z.2.2.1 else if z.2.2.1 < v1.1 then f_X7_sharpest_B20_b55 v1 v2 z.2.2.2.1 z.2.2.2.2 z.1 z.2.1 x3 z.2.2.1 else if (12 : Int32) ≤ z.2.2.1 then f_X7_sharpest_B20_b55 v1 v2 z.2.2.2.1 z.2.2.2.2 z.1 z.2.1 x3 z.2.2.1 else f_X7_sharpest_B20_b111 v1 v2 z.2.2.2.1 z.2.2.2.2 z.1 z.2.1 x3 z.2.2.1
set_option maxRecDepth 100000 in
set_option maxHeartbeats 4000000 in
theorem b_X7_sharpest_B20 {p : Program} {l : Launch} {e : Env} {s : State} {m : MethodId} {args : Array Value} {below : List Frame} {meth : Method} {c : Code} {A : Nat → Prop} {D : va_G} {cy : Nat → ClassId} {ad : (Nat → Nat) × (Nat → Nat)} {Q : State → Prop} (X : gK p s m args meth c A D cy ad cX7_sharpest 5 RX7) (hr : meth.sig.returnType = (some .int)) {h0 h1 h2 h3 h4 h5 h6 h7 h8 h9 a1 a2 a3 a4 : Nat} (v1 : TBv) (v2 : Fn) (x3 : Int32) (z : Int32 × Int32 × Int32 × SCv × TAv) {q : (Int32 × Int32 × Int32 × SCv × TAv) ⊕ ((Int32 × Int32 × SCv × TAv))} (hf : f_X7_sharpest_B20 v1 v2 x3 z = some q) (K1 : ∀ s' : Int32 × Int32 × Int32 × SCv × TAv, q = .inl s' → GW p l e rmX7_sharpest s m args below meth c A D 5 0 0 Q 20 [(0, .ref h0), (1, .int s'.1), (2, .int s'.2.1), (3, .int x3), (4, .int s'.2.2.1)] [] [FP h0 h1 h2 h3 h4 h5 h6 h7 h8 h9, TB cy h2 a1 a2 a3 v1, SU cy a2 a4 v2, SC a3 (s'.2.2.2.1.1, s'.2.2.2.1.2.1, s'.2.2.2.1.2.2.1, s'.2.2.2.1.2.2.2.1, s'.2.2.2.1.2.2.2.2.1, s'.2.2.2.1.2.2.2.2.2), TA h7 (s'.2.2.2.2.1, s'.2.2.2.2.2.1, s'.2.2.2.2.2.2)]) (K2 : ∀ e' : Int32 × Int32 × SCv × TAv, q = .inr (e') → GW p l e rmX7_sharpest s m args below meth c A D 5 0 0 Q 117 [(0, .ref h0), (1, .int e'.1), (2, .int e'.2.1), (3, .int x3)] [] [FP h0 h1 h2 h3 h4 h5 h6 h7 h8 h9, TB cy h2 a1 a2 a3 v1, SU cy a2 a4 v2, SC a3 (e'.2.2.1.1, e'.2.2.1.2.1, e'.2.2.1.2.2.1, e'.2.2.1.2.2.2.1, e'.2.2.1.2.2.2.2.1, e'.2.2.1.2.2.2.2.2), TA h7 (e'.2.2.2.1, e'.2.2.2.2.1, e'.2.2.2.2.2)]) : GW p l e rmX7_sharpest s m args below meth c A D 5 0 0 Q 20 [(0, .ref h0), (1, .int z.1), (2, .int z.2.1), (3, .int x3), (4, .int z.2.2.1)] [] [FP h0 h1 h2 h3 h4 h5 h6 h7 h8 h9, TB cy h2 a1 a2 a3 v1, SU cy a2 a4 v2, SC a3 z.2.2.2.1, TA h7 z.2.2.2.2] := by
  unfold f_X7_sharpest_B20 at hf
  refine g_iload X dX7_sharpest_20 4 rfl ?_
  refine g_bipush X (12 : Int32) dX7_sharpest_22 (by decide) ?_
  refine g_icmp_gt X 117 dX7_sharpest_24 (by decide) (fun c630 => ?_) (fun c630 => ?_)
  · have hf := opos c630 hf
    refine g_sub [0, 1, 2, 3] (lv' := [(0, .ref h0), (1, .int z.1), (2, .int z.2.1), (3, .int x3)]) rfl ?_
    exact K2 (z.1, z.2.1, z.2.2.2.1, z.2.2.2.2) (Option.some.inj hf).symm
  · have hf := oneg c630 hf
    refine g_iload X dX7_sharpest_27 4 rfl ?_
    refine g_iload_n X dX7_sharpest_29 3 rfl rfl ?_
    refine g_icmp_eq X 111 dX7_sharpest_30 (by decide) (fun c629 => ?_) (fun c629 => ?_)
    · have hf := opos c629 hf
      exact j_X7_sharpest_B20_b111 X hr v1 v2 z.2.2.2.1 z.2.2.2.2 z.1 z.2.1 x3 z.2.2.1 hf K1 K2
    · have hf := oneg c629 hf
      refine g_iload X dX7_sharpest_33 4 rfl ?_
      refine g_aload_n X dX7_sharpest_35 0 rfl rfl ?_
      refine g_get X dX7_sharpest_36 ck_X7 0 0 1 rfl rfl (Nat.le_of_ble_eq_true rfl) lkf_X7_19 rfl ?_
      refine g_get X dX7_sharpest_39 ck_X4 1 0 0 rfl rfl (Nat.le_of_ble_eq_true rfl) lkf_X7_145 rfl ?_
      refine g_icmp_lt X 55 dX7_sharpest_42 (by decide) (fun c628 => ?_) (fun c628 => ?_)
      · have hf := opos c628 hf
        exact j_X7_sharpest_B20_b55 X hr v1 v2 z.2.2.2.1 z.2.2.2.2 z.1 z.2.1 x3 z.2.2.1 hf K1 K2
      · have hf := oneg c628 hf
        refine g_iload X dX7_sharpest_45 4 rfl ?_
        refine g_bipush X (12 : Int32) dX7_sharpest_47 (by decide) ?_
        refine g_icmp_ge X 55 dX7_sharpest_49 (by decide) (fun c627 => ?_) (fun c627 => ?_)
        · have hf := opos c627 hf
          exact j_X7_sharpest_B20_b55 X hr v1 v2 z.2.2.2.1 z.2.2.2.2 z.1 z.2.1 x3 z.2.2.1 hf K1 K2
        · have hf := oneg c627 hf
          refine g_goto X 111 dX7_sharpest_52 (by decide) ?_
          exact j_X7_sharpest_B20_b111 X hr v1 v2 z.2.2.2.1 z.2.2.2.2 z.1 z.2.1 x3 z.2.2.1 hf K1 K2
set_option maxRecDepth 100000 in
set_option maxHeartbeats 4000000 in
theorem w_X7_sharpest_B20 {p : Program} {l : Launch} {e : Env} {s : State} {m : MethodId} {args : Array Value} {below : List Frame} {meth : Method} {c : Code} {A : Nat → Prop} {D : va_G} {cy : Nat → ClassId} {ad : (Nat → Nat) × (Nat → Nat)} {Q : State → Prop} (X : gK p s m args meth c A D cy ad cX7_sharpest 5 RX7) (hr : meth.sig.returnType = (some .int)) {h0 h1 h2 h3 h4 h5 h6 h7 h8 h9 a1 a2 a3 a4 : Nat} (v1 : TBv) (v2 : Fn) (x3 : Int32) {n : Nat} {z : Int32 × Int32 × Int32 × SCv × TAv} {q : (Int32 × Int32 × SCv × TAv)} (hf : itl (f_X7_sharpest_B20 v1 v2 x3) n z = some q) (K2 : GW p l e rmX7_sharpest s m args below meth c A D 5 0 0 Q 117 [(0, .ref h0), (1, .int q.1), (2, .int q.2.1), (3, .int x3)] [] [FP h0 h1 h2 h3 h4 h5 h6 h7 h8 h9, TB cy h2 a1 a2 a3 v1, SU cy a2 a4 v2, SC a3 q.2.2.1, TA h7 q.2.2.2]) : GW p l e rmX7_sharpest s m args below meth c A D 5 0 0 Q 20 [(0, .ref h0), (1, .int z.1), (2, .int z.2.1), (3, .int x3), (4, .int z.2.2.1)] [] [FP h0 h1 h2 h3 h4 h5 h6 h7 h8 h9, TB cy h2 a1 a2 a3 v1, SU cy a2 a4 v2, SC a3 z.2.2.2.1, TA h7 z.2.2.2.2] :=
  itl_ind (f := f_X7_sharpest_B20 v1 v2 x3) (I := fun z => GW p l e rmX7_sharpest s m args below meth c A D 5 0 0 Q 20 [(0, .ref h0), (1, .int z.1), (2, .int z.2.1), (3, .int x3), (4, .int z.2.2.1)] [] [FP h0 h1 h2 h3 h4 h5 h6 h7 h8 h9, TB cy h2 a1 a2 a3 v1, SU cy a2 a4 v2, SC a3 z.2.2.2.1, TA h7 z.2.2.2.2]) (J := (fun q => GW p l e rmX7_sharpest s m args below meth c A D 5 0 0 Q 117 [(0, .ref h0), (1, .int q.1), (2, .int q.2.1), (3, .int x3)] [] [FP h0 h1 h2 h3 h4 h5 h6 h7 h8 h9, TB cy h2 a1 a2 a3 v1, SU cy a2 a4 v2, SC a3 q.2.2.1, TA h7 q.2.2.2])) (fun z x h k1 k2 => b_X7_sharpest_B20 X hr v1 v2 x3 z h (fun s' hs => k1 s' hs) (fun e' he => k2 e' he)) n z q hf K2
def f_X7_sharpest_B6 (v1 : TBv) (v2 : Fn) (z : Int32 × Int32 × Int32 × SCv × TAv) : Option ((Int32 × Int32 × Int32 × SCv × TAv) ⊕ ((Int32 × SCv × TAv))) :=
  if v1.1 ≤ z.2.2.1 then some (.inr ((z.2.1, z.2.2.2.1, z.2.2.2.2))) else (itl (f_X7_sharpest_B20 v1 v2 z.2.2.1) FU (z.1, z.2.1, (0 : Int32), z.2.2.2.1, z.2.2.2.2)).bind (fun q631 => some (.inl (q631.1, q631.2.1, (z.2.2.1 + (1 : Int32)), q631.2.2.1, q631.2.2.2)))
set_option maxRecDepth 100000 in
set_option maxHeartbeats 4000000 in
theorem b_X7_sharpest_B6 {p : Program} {l : Launch} {e : Env} {s : State} {m : MethodId} {args : Array Value} {below : List Frame} {meth : Method} {c : Code} {A : Nat → Prop} {D : va_G} {cy : Nat → ClassId} {ad : (Nat → Nat) × (Nat → Nat)} {Q : State → Prop} (X : gK p s m args meth c A D cy ad cX7_sharpest 5 RX7) (hr : meth.sig.returnType = (some .int)) {h0 h1 h2 h3 h4 h5 h6 h7 h8 h9 a1 a2 a3 a4 : Nat} (v1 : TBv) (v2 : Fn) (z : Int32 × Int32 × Int32 × SCv × TAv) {q : (Int32 × Int32 × Int32 × SCv × TAv) ⊕ ((Int32 × SCv × TAv))} (hf : f_X7_sharpest_B6 v1 v2 z = some q) (K1 : ∀ s' : Int32 × Int32 × Int32 × SCv × TAv, q = .inl s' → GW p l e rmX7_sharpest s m args below meth c A D 5 0 0 Q 6 [(0, .ref h0), (1, .int s'.1), (2, .int s'.2.1), (3, .int s'.2.2.1)] [] [FP h0 h1 h2 h3 h4 h5 h6 h7 h8 h9, TB cy h2 a1 a2 a3 v1, SU cy a2 a4 v2, SC a3 (s'.2.2.2.1.1, s'.2.2.2.1.2.1, s'.2.2.2.1.2.2.1, s'.2.2.2.1.2.2.2.1, s'.2.2.2.1.2.2.2.2.1, s'.2.2.2.1.2.2.2.2.2), TA h7 (s'.2.2.2.2.1, s'.2.2.2.2.2.1, s'.2.2.2.2.2.2)]) (K2 : ∀ e' : Int32 × SCv × TAv, q = .inr (e') → GW p l e rmX7_sharpest s m args below meth c A D 5 0 0 Q 123 [(2, .int e'.1)] [] [FP h0 h1 h2 h3 h4 h5 h6 h7 h8 h9, TB cy h2 a1 a2 a3 v1, SU cy a2 a4 v2, SC a3 (e'.2.1.1, e'.2.1.2.1, e'.2.1.2.2.1, e'.2.1.2.2.2.1, e'.2.1.2.2.2.2.1, e'.2.1.2.2.2.2.2), TA h7 (e'.2.2.1, e'.2.2.2.1, e'.2.2.2.2)]) : GW p l e rmX7_sharpest s m args below meth c A D 5 0 0 Q 6 [(0, .ref h0), (1, .int z.1), (2, .int z.2.1), (3, .int z.2.2.1)] [] [FP h0 h1 h2 h3 h4 h5 h6 h7 h8 h9, TB cy h2 a1 a2 a3 v1, SU cy a2 a4 v2, SC a3 z.2.2.2.1, TA h7 z.2.2.2.2] := by
  unfold f_X7_sharpest_B6 at hf
  refine g_iload_n X dX7_sharpest_6 3 rfl rfl ?_
  refine g_aload_n X dX7_sharpest_7 0 rfl rfl ?_
  refine g_get X dX7_sharpest_8 ck_X7 0 0 1 rfl rfl (Nat.le_of_ble_eq_true rfl) lkf_X7_19 rfl ?_
  refine g_get X dX7_sharpest_11 ck_X4 1 0 0 rfl rfl (Nat.le_of_ble_eq_true rfl) lkf_X7_145 rfl ?_
  refine g_icmp_ge X 123 dX7_sharpest_14 (by decide) (fun c632 => ?_) (fun c632 => ?_)
  · have hf := opos c632 hf
    refine g_sub [2] (lv' := [(2, .int z.2.1)]) rfl ?_
    exact K2 (z.2.1, z.2.2.2.1, z.2.2.2.2) (Option.some.inj hf).symm
  · have hf := oneg c632 hf
    refine g_iconst X (0 : Int32) dX7_sharpest_17 (by decide) ?_
    refine g_istore (lv' := [(0, .ref h0), (1, .int z.1), (2, .int z.2.1), (3, .int z.2.2.1), (4, .int (0 : Int32))]) X dX7_sharpest_18 [1, 2, 3, 4, 0] (Nat.le_of_ble_eq_true rfl) rfl ?_
    obtain ⟨q631, hq631, hf⟩ := obind hf
    refine w_X7_sharpest_B20 X hr v1 v2 z.2.2.1 hq631 ?_
    refine g_iinc (lv' := [(0, .ref h0), (1, .int q631.1), (2, .int q631.2.1), (3, .int (z.2.2.1 + (1 : Int32)))]) (v := (1 : Int32)) X dX7_sharpest_117 3 rfl (by decide) [1, 2, 3, 0] (Nat.le_of_ble_eq_true rfl) rfl ?_
    refine g_goto X 6 dX7_sharpest_120 (by decide) ?_
    exact K1 (q631.1, q631.2.1, (z.2.2.1 + (1 : Int32)), q631.2.2.1, q631.2.2.2) (Option.some.inj hf).symm
set_option maxRecDepth 100000 in
set_option maxHeartbeats 4000000 in
theorem w_X7_sharpest_B6 {p : Program} {l : Launch} {e : Env} {s : State} {m : MethodId} {args : Array Value} {below : List Frame} {meth : Method} {c : Code} {A : Nat → Prop} {D : va_G} {cy : Nat → ClassId} {ad : (Nat → Nat) × (Nat → Nat)} {Q : State → Prop} (X : gK p s m args meth c A D cy ad cX7_sharpest 5 RX7) (hr : meth.sig.returnType = (some .int)) {h0 h1 h2 h3 h4 h5 h6 h7 h8 h9 a1 a2 a3 a4 : Nat} (v1 : TBv) (v2 : Fn) {n : Nat} {z : Int32 × Int32 × Int32 × SCv × TAv} {q : (Int32 × SCv × TAv)} (hf : itl (f_X7_sharpest_B6 v1 v2) n z = some q) (K2 : GW p l e rmX7_sharpest s m args below meth c A D 5 0 0 Q 123 [(2, .int q.1)] [] [FP h0 h1 h2 h3 h4 h5 h6 h7 h8 h9, TB cy h2 a1 a2 a3 v1, SU cy a2 a4 v2, SC a3 q.2.1, TA h7 q.2.2]) : GW p l e rmX7_sharpest s m args below meth c A D 5 0 0 Q 6 [(0, .ref h0), (1, .int z.1), (2, .int z.2.1), (3, .int z.2.2.1)] [] [FP h0 h1 h2 h3 h4 h5 h6 h7 h8 h9, TB cy h2 a1 a2 a3 v1, SU cy a2 a4 v2, SC a3 z.2.2.2.1, TA h7 z.2.2.2.2] :=
  itl_ind (f := f_X7_sharpest_B6 v1 v2) (I := fun z => GW p l e rmX7_sharpest s m args below meth c A D 5 0 0 Q 6 [(0, .ref h0), (1, .int z.1), (2, .int z.2.1), (3, .int z.2.2.1)] [] [FP h0 h1 h2 h3 h4 h5 h6 h7 h8 h9, TB cy h2 a1 a2 a3 v1, SU cy a2 a4 v2, SC a3 z.2.2.2.1, TA h7 z.2.2.2.2]) (J := (fun q => GW p l e rmX7_sharpest s m args below meth c A D 5 0 0 Q 123 [(2, .int q.1)] [] [FP h0 h1 h2 h3 h4 h5 h6 h7 h8 h9, TB cy h2 a1 a2 a3 v1, SU cy a2 a4 v2, SC a3 q.2.1, TA h7 q.2.2])) (fun z x h k1 k2 => b_X7_sharpest_B6 X hr v1 v2 z h (fun s' hs => k1 s' hs) (fun e' he => k2 e' he)) n z q hf K2
def f_X7_sharpest (v1 : TBv) (v2 : Fn) (v3 : SCv) (v13 : TAv) : Option (Int32 × SCv × TAv) :=
  (itl (f_X7_sharpest_B6 v1 v2) FU ((0 : Int32), (-1 : Int32), (0 : Int32), v3, v13)).bind (fun q633 => some (q633.1, q633.2.1, q633.2.2))
set_option maxRecDepth 100000 in
set_option maxHeartbeats 4000000 in
theorem c_X7_sharpest (l : Launch) (D : va_G) (cy : Nat → ClassId) (ad : (Nat → Nat) × (Nat → Nat)) (h0 : Nat) (h1 : Nat) (h2 : Nat) (h3 : Nat) (h4 : Nat) (h5 : Nat) (h6 : Nat) (h7 : Nat) (h8 : Nat) (h9 : Nat) (a1 : Nat) (a2 : Nat) (a3 : Nat) (a4 : Nat) (v1 : TBv) (v2 : Fn) (v3 : SCv) (v13 : TAv) {q : Int32 × SCv × TAv} (hf : f_X7_sharpest v1 v2 v3 v13 = some q) : CM l yX7_sharpest cX7_sharpest 5 (some .int) rmX7_sharpest D cy ad [.ref h0] [FP h0 h1 h2 h3 h4 h5 h6 h7 h8 h9, TB cy h2 a1 a2 a3 v1, SU cy a2 a4 v2, SC a3 v3, TA h7 v13] (some (.int q.1)) [FP h0 h1 h2 h3 h4 h5 h6 h7 h8 h9, TB cy h2 a1 a2 a3 v1, SU cy a2 a4 v2, SC a3 q.2.1, TA h7 q.2.2] := by
  refine cm_of (lv0 := [(0, .ref h0)]) (by decide) (Nat.le_of_ble_eq_true rfl) rfl ?_
  intro p e s m args below meth c A X hr hn
  have X : gK p s m args meth c A D cy ad cX7_sharpest 5 RX7 := X
  unfold f_X7_sharpest at hf
  refine g_iconst X (0 : Int32) dX7_sharpest_0 (by decide) ?_
  refine g_istore_n (lv' := [(0, .ref h0), (1, .int (0 : Int32))]) X dX7_sharpest_1 [1, 0] rfl (Nat.le_of_ble_eq_true rfl) rfl ?_
  refine g_iconst X (-1 : Int32) dX7_sharpest_2 (by decide) ?_
  refine g_istore_n (lv' := [(0, .ref h0), (1, .int (0 : Int32)), (2, .int (-1 : Int32))]) X dX7_sharpest_3 [1, 2, 0] rfl (Nat.le_of_ble_eq_true rfl) rfl ?_
  refine g_iconst X (0 : Int32) dX7_sharpest_4 (by decide) ?_
  refine g_istore_n (lv' := [(0, .ref h0), (1, .int (0 : Int32)), (2, .int (-1 : Int32)), (3, .int (0 : Int32))]) X dX7_sharpest_5 [1, 2, 3, 0] rfl (Nat.le_of_ble_eq_true rfl) rfl ?_
  obtain ⟨q633, hq633, hf⟩ := obind hf
  refine w_X7_sharpest_B6 X hr v1 v2 hq633 ?_
  refine g_iload_n X dX7_sharpest_123 0 rfl rfl ?_
  have hf := Option.some.inj hf
  subst hf
  exact g_iret X hr dX7_sharpest_124
abbrev rmX7_needs : Room := ({ frames := 2, cells := 0, slots := 0, locals := 42 } : Room)
def f_X7_needs (v1 : TBv) (v2 : Fn) : Option (Int32) :=
  (f_X3_count v2).bind (fun q641 => (f_X7_weighingsFor q641).bind (fun q642 => some q642))
set_option maxRecDepth 100000 in
set_option maxHeartbeats 4000000 in
theorem c_X7_needs (l : Launch) (D : va_G) (cy : Nat → ClassId) (ad : (Nat → Nat) × (Nat → Nat)) (h0 : Nat) (h1 : Nat) (h2 : Nat) (h3 : Nat) (h4 : Nat) (h5 : Nat) (h6 : Nat) (h7 : Nat) (h8 : Nat) (h9 : Nat) (a1 : Nat) (a2 : Nat) (a3 : Nat) (a4 : Nat) (v1 : TBv) (v2 : Fn) {q : Int32} (hf : f_X7_needs v1 v2 = some q) : CM l yX7_needs cX7_needs 1 (some .int) rmX7_needs D cy ad [.ref h0] [FP h0 h1 h2 h3 h4 h5 h6 h7 h8 h9, TB cy h2 a1 a2 a3 v1, SU cy a2 a4 v2] (some (.int q)) [FP h0 h1 h2 h3 h4 h5 h6 h7 h8 h9, TB cy h2 a1 a2 a3 v1, SU cy a2 a4 v2] := by
  refine cm_of (lv0 := [(0, .ref h0)]) (by decide) (Nat.le_of_ble_eq_true rfl) rfl ?_
  intro p e s m args below meth c A X hr hn
  have X : gK p s m args meth c A D cy ad cX7_needs 1 RX7 := X
  unfold f_X7_needs at hf
  refine g_aload_n X dX7_needs_0 0 rfl rfl ?_
  refine g_get X dX7_needs_1 ck_X7 0 0 1 rfl rfl (Nat.le_of_ble_eq_true rfl) lkf_X7_19 rfl ?_
  refine g_get X dX7_needs_4 ck_X4 1 0 8 rfl rfl (Nat.le_of_ble_eq_true rfl) lkf_X7_149 rfl ?_
  obtain ⟨q641, hq641, hf⟩ := obind hf
  refine g_callV (gs' := [FP h0 h1 h2 h3 h4 h5 h6 h7 h8 h9, TB cy h2 a1 a2 a3 v1, SU cy a2 a4 v2]) (rest := []) X dX7_needs_7 (c_X3_count l D cy ad a2 a4 v2 hq641) mf_X3_count mv_X3_count lkm_X7_153 ⟨(Nat.le_of_ble_eq_true rfl), (Nat.le_of_ble_eq_true rfl), (Nat.le_of_ble_eq_true rfl), (Nat.le_of_ble_eq_true rfl)⟩ 2 0 rfl rfl rfl rfl [2, 0, 1] _ (by decide : [2, 0, 1].Perm (List.range 3)) rfl (by decide : [2, 0, 1].Perm (List.range 3)) rfl (Nat.le_of_ble_eq_true rfl) rfl ?_
  obtain ⟨q642, hq642, hf⟩ := obind hf
  refine g_callS (gs' := [FP h0 h1 h2 h3 h4 h5 h6 h7 h8 h9, TB cy h2 a1 a2 a3 v1, SU cy a2 a4 v2]) (rest := []) X dX7_needs_10 (c_X7_weighingsFor l D cy ad q641 hq642) mf_X7_weighingsFor ms_X7_weighingsFor lkm_X7_275 ⟨(Nat.le_of_ble_eq_true rfl), (Nat.le_of_ble_eq_true rfl), (Nat.le_of_ble_eq_true rfl), (Nat.le_of_ble_eq_true rfl)⟩ [0, 1, 2] _ (by decide : [0, 1, 2].Perm (List.range 3)) rfl (by decide : [0, 1, 2].Perm (List.range 3)) rfl (Nat.le_of_ble_eq_true rfl) rfl ?_
  have hf := Option.some.inj hf
  subst hf
  exact g_iret X hr dX7_needs_13
abbrev rmX7_bestArms : Room := ({ frames := 7, cells := 2, slots := 12, locals := 112 } : Room)
def f_X7_bestArms_B24_b82 (v1 : TBv) (v2 : Fn) (v3 : SCv) (v13 : TAv) (x1 : Int32) (x2 : Int32) (x3 : Int32) (x4 : Int32) (x5 : Int32) (x6 : Int32) : Option ((Int32 × Int32 × Int32 × SCv × TAv) ⊕ ((Int32 × Int32 × SCv × TAv))) :=
  some (.inl (x3, x4, (x6 + (1 : Int32)), v3, v13))
set_option maxRecDepth 100000 in
set_option maxHeartbeats 4000000 in
theorem j_X7_bestArms_B24_b82 {p : Program} {l : Launch} {e : Env} {s : State} {m : MethodId} {args : Array Value} {below : List Frame} {meth : Method} {c : Code} {A : Nat → Prop} {D : va_G} {cy : Nat → ClassId} {ad : (Nat → Nat) × (Nat → Nat)} {Q : State → Prop} (X : gK p s m args meth c A D cy ad cX7_bestArms 7 RX7) (hr : meth.sig.returnType = (some .int)) (hne : ∀ x ∈ c.exceptionTable.toList, False) (hfl : l.stackTraces = false) {h0 h1 h2 h3 h4 h5 h6 h7 h8 h9 a1 a2 a3 a4 : Nat} (v1 : TBv) (v2 : Fn) (v3 : SCv) (v13 : TAv) (x1 : Int32) (x2 : Int32) (x3 : Int32) (x4 : Int32) (x5 : Int32) (x6 : Int32) {q : (Int32 × Int32 × Int32 × SCv × TAv) ⊕ ((Int32 × Int32 × SCv × TAv))} (hf : f_X7_bestArms_B24_b82 v1 v2 v3 v13 x1 x2 x3 x4 x5 x6 = some q) (K1 : ∀ s' : Int32 × Int32 × Int32 × SCv × TAv, q = .inl s' → GW p l e rmX7_bestArms s m args below meth c A D 7 1 6 Q 24 [(0, .ref h0), (1, .int x1), (2, .int x2), (3, .int s'.1), (4, .int s'.2.1), (5, .int x5), (6, .int s'.2.2.1)] [] [FP h0 h1 h2 h3 h4 h5 h6 h7 h8 h9, TB cy h2 a1 a2 a3 v1, SU cy a2 a4 v2, SC a3 (s'.2.2.2.1.1, s'.2.2.2.1.2.1, s'.2.2.2.1.2.2.1, s'.2.2.2.1.2.2.2.1, s'.2.2.2.1.2.2.2.2.1, s'.2.2.2.1.2.2.2.2.2), TA h7 (s'.2.2.2.2.1, s'.2.2.2.2.2.1, s'.2.2.2.2.2.2)]) (K2 : ∀ e' : Int32 × Int32 × SCv × TAv, q = .inr (e') → GW p l e rmX7_bestArms s m args below meth c A D 7 1 6 Q 88 [(0, .ref h0), (1, .int x1), (2, .int x2), (3, .int e'.1), (4, .int e'.2.1), (5, .int x5)] [] [FP h0 h1 h2 h3 h4 h5 h6 h7 h8 h9, TB cy h2 a1 a2 a3 v1, SU cy a2 a4 v2, SC a3 (e'.2.2.1.1, e'.2.2.1.2.1, e'.2.2.1.2.2.1, e'.2.2.1.2.2.2.1, e'.2.2.1.2.2.2.2.1, e'.2.2.1.2.2.2.2.2), TA h7 (e'.2.2.2.1, e'.2.2.2.2.1, e'.2.2.2.2.2)]) : GW p l e rmX7_bestArms s m args below meth c A D 7 1 6 Q 82 [(0, .ref h0), (1, .int x1), (2, .int x2), (3, .int x3), (4, .int x4), (5, .int x5), (6, .int x6)] [] [FP h0 h1 h2 h3 h4 h5 h6 h7 h8 h9, TB cy h2 a1 a2 a3 v1, SU cy a2 a4 v2, SC a3 v3, TA h7 v13] := by
  unfold f_X7_bestArms_B24_b82 at hf
  refine g_iinc (lv' := [(0, .ref h0), (1, .int x1), (2, .int x2), (3, .int x3), (4, .int x4), (5, .int x5), (6, .int (x6 + (1 : Int32)))]) (v := (1 : Int32)) X dX7_bestArms_82 6 rfl (by decide) [1, 2, 3, 4, 5, 6, 0] (Nat.le_of_ble_eq_true rfl) rfl ?_
  refine g_goto X 24 dX7_bestArms_85 (by decide) ?_
  exact K1 (x3, x4, (x6 + (1 : Int32)), v3, v13) (Option.some.inj hf).symm
def f_X7_bestArms_B24_b64 (v1 : TBv) (v2 : Fn) (v3 : SCv) (v13 : TAv) (x1 : Int32) (x2 : Int32) (x5 : Int32) (x6 : Int32) : Option ((Int32 × Int32 × Int32 × SCv × TAv) ⊕ ((Int32 × Int32 × SCv × TAv))) :=
  (f_X5_worst v13).bind (fun q653 => f_X7_bestArms_B24_b82 v1 v2 v3 v13 x1 x2 q653 (((100 : Int32) * x5) + x6) x5 x6)
set_option maxRecDepth 100000 in
set_option maxHeartbeats 4000000 in
theorem j_X7_bestArms_B24_b64 {p : Program} {l : Launch} {e : Env} {s : State} {m : MethodId} {args : Array Value} {below : List Frame} {meth : Method} {c : Code} {A : Nat → Prop} {D : va_G} {cy : Nat → ClassId} {ad : (Nat → Nat) × (Nat → Nat)} {Q : State → Prop} (X : gK p s m args meth c A D cy ad cX7_bestArms 7 RX7) (hr : meth.sig.returnType = (some .int)) (hne : ∀ x ∈ c.exceptionTable.toList, False) (hfl : l.stackTraces = false) {h0 h1 h2 h3 h4 h5 h6 h7 h8 h9 a1 a2 a3 a4 : Nat} (v1 : TBv) (v2 : Fn) (v3 : SCv) (v13 : TAv) (x1 : Int32) (x2 : Int32) (x5 : Int32) (x6 : Int32) {q : (Int32 × Int32 × Int32 × SCv × TAv) ⊕ ((Int32 × Int32 × SCv × TAv))} (hf : f_X7_bestArms_B24_b64 v1 v2 v3 v13 x1 x2 x5 x6 = some q) (K1 : ∀ s' : Int32 × Int32 × Int32 × SCv × TAv, q = .inl s' → GW p l e rmX7_bestArms s m args below meth c A D 7 1 6 Q 24 [(0, .ref h0), (1, .int x1), (2, .int x2), (3, .int s'.1), (4, .int s'.2.1), (5, .int x5), (6, .int s'.2.2.1)] [] [FP h0 h1 h2 h3 h4 h5 h6 h7 h8 h9, TB cy h2 a1 a2 a3 v1, SU cy a2 a4 v2, SC a3 (s'.2.2.2.1.1, s'.2.2.2.1.2.1, s'.2.2.2.1.2.2.1, s'.2.2.2.1.2.2.2.1, s'.2.2.2.1.2.2.2.2.1, s'.2.2.2.1.2.2.2.2.2), TA h7 (s'.2.2.2.2.1, s'.2.2.2.2.2.1, s'.2.2.2.2.2.2)]) (K2 : ∀ e' : Int32 × Int32 × SCv × TAv, q = .inr (e') → GW p l e rmX7_bestArms s m args below meth c A D 7 1 6 Q 88 [(0, .ref h0), (1, .int x1), (2, .int x2), (3, .int e'.1), (4, .int e'.2.1), (5, .int x5)] [] [FP h0 h1 h2 h3 h4 h5 h6 h7 h8 h9, TB cy h2 a1 a2 a3 v1, SU cy a2 a4 v2, SC a3 (e'.2.2.1.1, e'.2.2.1.2.1, e'.2.2.1.2.2.1, e'.2.2.1.2.2.2.1, e'.2.2.1.2.2.2.2.1, e'.2.2.1.2.2.2.2.2), TA h7 (e'.2.2.2.1, e'.2.2.2.2.1, e'.2.2.2.2.2)]) : GW p l e rmX7_bestArms s m args below meth c A D 7 1 6 Q 64 [(0, .ref h0), (1, .int x1), (2, .int x2), (5, .int x5), (6, .int x6)] [] [FP h0 h1 h2 h3 h4 h5 h6 h7 h8 h9, TB cy h2 a1 a2 a3 v1, SU cy a2 a4 v2, SC a3 v3, TA h7 v13] := by
  unfold f_X7_bestArms_B24_b64 at hf
  refine g_aload_n X dX7_bestArms_64 0 rfl rfl ?_
  refine g_get X dX7_bestArms_65 ck_X7 0 0 6 rfl rfl (Nat.le_of_ble_eq_true rfl) lkf_X7_46 rfl ?_
  obtain ⟨q653, hq653, hf⟩ := obind hf
  refine g_callV (gs' := [FP h0 h1 h2 h3 h4 h5 h6 h7 h8 h9, TB cy h2 a1 a2 a3 v1, SU cy a2 a4 v2, SC a3 v3, TA h7 v13]) (rest := []) X dX7_bestArms_68 (c_X5_worst l D cy ad h7 v13 hq653) mf_X5_worst mv_X5_worst lkm_X7_269 ⟨(Nat.le_of_ble_eq_true rfl), (Nat.le_of_ble_eq_true rfl), (Nat.le_of_ble_eq_true rfl), (Nat.le_of_ble_eq_true rfl)⟩ 4 0 rfl rfl rfl rfl [4, 0, 1, 2, 3] _ (by decide : [4, 0, 1, 2, 3].Perm (List.range 5)) rfl (by decide : [4, 0, 1, 2, 3].Perm (List.range 5)) rfl (Nat.le_of_ble_eq_true rfl) rfl ?_
  refine g_istore_n (lv' := [(0, .ref h0), (1, .int x1), (2, .int x2), (3, .int q653), (5, .int x5), (6, .int x6)]) X dX7_bestArms_71 [1, 2, 3, 0, 4, 5] rfl (Nat.le_of_ble_eq_true rfl) rfl ?_
  refine g_bipush X (100 : Int32) dX7_bestArms_72 (by decide) ?_
  refine g_iload X dX7_bestArms_74 4 rfl ?_
  refine g_imul X dX7_bestArms_76 ?_
  refine g_iload X dX7_bestArms_77 5 rfl ?_
  refine g_iadd X dX7_bestArms_79 ?_
  refine g_istore (lv' := [(0, .ref h0), (1, .int x1), (2, .int x2), (3, .int q653), (4, .int (((100 : Int32) * x5) + x6)), (5, .int x5), (6, .int x6)]) X dX7_bestArms_80 [1, 2, 3, 4, 0, 5, 6] (Nat.le_of_ble_eq_true rfl) rfl ?_
  exact j_X7_bestArms_B24_b82 X hr hne hfl v1 v2 v3 v13 x1 x2 q653 (((100 : Int32) * x5) + x6) x5 x6 hf K1 K2
def f_X7_bestArms_B24 (v1 : TBv) (v2 : Fn) (x1 : Int32) (x2 : Int32) (x5 : Int32) (z : Int32 × Int32 × Int32 × SCv × TAv) : Option ((Int32 × Int32 × Int32 × SCv × TAv) ⊕ ((Int32 × Int32 × SCv × TAv))) :=
  if (20 : Int32) < z.2.2.1 then some (.inr ((z.1, z.2.1, z.2.2.2.1, z.2.2.2.2))) else (f_X4_foreseeWith v1 v2 z.2.2.2.1 z.2.2.2.2 x1 x2 x5 z.2.2.1).bind (fun q652 => if z.1 = (-1 : Int32) then f_X7_bestArms_B24_b64 v1 v2 q652.1 q652.2 x1 x2 x5 z.2.2.1 else (f_X5_worst q652.2).bind (fun q654 => if z.1 ≤ q654 then f_X7_bestArms_B24_b82 v1 v2 q652.1 q652.2 x1 x2 z.1 z.2.1 x5 z.2.2.1 else f_X7_bestArms_B24_b64 v1 v2 q652.1 q652.2 x1 x2 x5 z.2.2.1))
set_option maxRecDepth 100000 in
set_option maxHeartbeats 4000000 in
theorem b_X7_bestArms_B24 {p : Program} {l : Launch} {e : Env} {s : State} {m : MethodId} {args : Array Value} {below : List Frame} {meth : Method} {c : Code} {A : Nat → Prop} {D : va_G} {cy : Nat → ClassId} {ad : (Nat → Nat) × (Nat → Nat)} {Q : State → Prop} (X : gK p s m args meth c A D cy ad cX7_bestArms 7 RX7) (hr : meth.sig.returnType = (some .int)) (hne : ∀ x ∈ c.exceptionTable.toList, False) (hfl : l.stackTraces = false) {h0 h1 h2 h3 h4 h5 h6 h7 h8 h9 a1 a2 a3 a4 : Nat} (v1 : TBv) (v2 : Fn) (x1 : Int32) (x2 : Int32) (x5 : Int32) (z : Int32 × Int32 × Int32 × SCv × TAv) {q : (Int32 × Int32 × Int32 × SCv × TAv) ⊕ ((Int32 × Int32 × SCv × TAv))} (hf : f_X7_bestArms_B24 v1 v2 x1 x2 x5 z = some q) (K1 : ∀ s' : Int32 × Int32 × Int32 × SCv × TAv, q = .inl s' → GW p l e rmX7_bestArms s m args below meth c A D 7 1 6 Q 24 [(0, .ref h0), (1, .int x1), (2, .int x2), (3, .int s'.1), (4, .int s'.2.1), (5, .int x5), (6, .int s'.2.2.1)] [] [FP h0 h1 h2 h3 h4 h5 h6 h7 h8 h9, TB cy h2 a1 a2 a3 v1, SU cy a2 a4 v2, SC a3 (s'.2.2.2.1.1, s'.2.2.2.1.2.1, s'.2.2.2.1.2.2.1, s'.2.2.2.1.2.2.2.1, s'.2.2.2.1.2.2.2.2.1, s'.2.2.2.1.2.2.2.2.2), TA h7 (s'.2.2.2.2.1, s'.2.2.2.2.2.1, s'.2.2.2.2.2.2)]) (K2 : ∀ e' : Int32 × Int32 × SCv × TAv, q = .inr (e') → GW p l e rmX7_bestArms s m args below meth c A D 7 1 6 Q 88 [(0, .ref h0), (1, .int x1), (2, .int x2), (3, .int e'.1), (4, .int e'.2.1), (5, .int x5)] [] [FP h0 h1 h2 h3 h4 h5 h6 h7 h8 h9, TB cy h2 a1 a2 a3 v1, SU cy a2 a4 v2, SC a3 (e'.2.2.1.1, e'.2.2.1.2.1, e'.2.2.1.2.2.1, e'.2.2.1.2.2.2.1, e'.2.2.1.2.2.2.2.1, e'.2.2.1.2.2.2.2.2), TA h7 (e'.2.2.2.1, e'.2.2.2.2.1, e'.2.2.2.2.2)]) : GW p l e rmX7_bestArms s m args below meth c A D 7 1 6 Q 24 [(0, .ref h0), (1, .int x1), (2, .int x2), (3, .int z.1), (4, .int z.2.1), (5, .int x5), (6, .int z.2.2.1)] [] [FP h0 h1 h2 h3 h4 h5 h6 h7 h8 h9, TB cy h2 a1 a2 a3 v1, SU cy a2 a4 v2, SC a3 z.2.2.2.1, TA h7 z.2.2.2.2] := by
  unfold f_X7_bestArms_B24 at hf
  refine g_iload X dX7_bestArms_24 6 rfl ?_
  refine g_bipush X (20 : Int32) dX7_bestArms_26 (by decide) ?_
  refine g_icmp_gt X 88 dX7_bestArms_28 (by decide) (fun c657 => ?_) (fun c657 => ?_)
  · have hf := opos c657 hf
    refine g_sub [0, 1, 2, 3, 4, 5] (lv' := [(0, .ref h0), (1, .int x1), (2, .int x2), (3, .int z.1), (4, .int z.2.1), (5, .int x5)]) rfl ?_
    exact K2 (z.1, z.2.1, z.2.2.2.1, z.2.2.2.2) (Option.some.inj hf).symm
  · have hf := oneg c657 hf
    refine g_aload_n X dX7_bestArms_31 0 rfl rfl ?_
    refine g_get X dX7_bestArms_32 ck_X7 0 0 1 rfl rfl (Nat.le_of_ble_eq_true rfl) lkf_X7_19 rfl ?_
    refine g_iload_n X dX7_bestArms_35 1 rfl rfl ?_
    refine g_iload_n X dX7_bestArms_36 2 rfl rfl ?_
    refine g_iload X dX7_bestArms_37 5 rfl ?_
    refine g_iload X dX7_bestArms_39 6 rfl ?_
    refine g_aload_n X dX7_bestArms_41 0 rfl rfl ?_
    refine g_get X dX7_bestArms_42 ck_X7 0 0 6 rfl rfl (Nat.le_of_ble_eq_true rfl) lkf_X7_46 rfl ?_
    obtain ⟨q652, hq652, hf⟩ := obind hf
    refine g_callV (gs' := [FP h0 h1 h2 h3 h4 h5 h6 h7 h8 h9, TB cy h2 a1 a2 a3 v1, SU cy a2 a4 v2, SC a3 q652.1, TA h7 q652.2]) (rest := []) X dX7_bestArms_45 (c_X4_foreseeWith l D cy ad h2 a1 a2 a3 a4 h7 v1 v2 z.2.2.2.1 z.2.2.2.2 x1 x2 x5 z.2.2.1 hq652) mf_X4_foreseeWith mv_X4_foreseeWith lkm_X7_278 ⟨(Nat.le_of_ble_eq_true rfl), (Nat.le_of_ble_eq_true rfl), (Nat.le_of_ble_eq_true rfl), (Nat.le_of_ble_eq_true rfl)⟩ 1 0 rfl rfl rfl rfl [1, 2, 3, 4, 0] _ (by decide : [1, 2, 3, 4, 0].Perm (List.range 5)) rfl (by decide : [1, 2, 3, 4, 0].Perm (List.range 5)) rfl (Nat.le_of_ble_eq_true rfl) rfl ?_
    refine g_iload_n X dX7_bestArms_48 3 rfl rfl ?_
    refine g_iconst X (-1 : Int32) dX7_bestArms_49 (by decide) ?_
    refine g_icmp_eq X 64 dX7_bestArms_50 (by decide) (fun c656 => ?_) (fun c656 => ?_)
    · have hf := opos c656 hf
      refine g_sub [0, 1, 2, 5, 6] (lv' := [(0, .ref h0), (1, .int x1), (2, .int x2), (5, .int x5), (6, .int z.2.2.1)]) rfl ?_
      exact j_X7_bestArms_B24_b64 X hr hne hfl v1 v2 q652.1 q652.2 x1 x2 x5 z.2.2.1 hf K1 K2
    · have hf := oneg c656 hf
      refine g_aload_n X dX7_bestArms_53 0 rfl rfl ?_
      refine g_get X dX7_bestArms_54 ck_X7 0 0 6 rfl rfl (Nat.le_of_ble_eq_true rfl) lkf_X7_46 rfl ?_
      obtain ⟨q654, hq654, hf⟩ := obind hf
      refine g_callV (gs' := [FP h0 h1 h2 h3 h4 h5 h6 h7 h8 h9, TB cy h2 a1 a2 a3 v1, SU cy a2 a4 v2, SC a3 q652.1, TA h7 q652.2]) (rest := []) X dX7_bestArms_57 (c_X5_worst l D cy ad h7 q652.2 hq654) mf_X5_worst mv_X5_worst lkm_X7_269 ⟨(Nat.le_of_ble_eq_true rfl), (Nat.le_of_ble_eq_true rfl), (Nat.le_of_ble_eq_true rfl), (Nat.le_of_ble_eq_true rfl)⟩ 4 0 rfl rfl rfl rfl [4, 0, 1, 2, 3] _ (by decide : [4, 0, 1, 2, 3].Perm (List.range 5)) rfl (by decide : [4, 0, 1, 2, 3].Perm (List.range 5)) rfl (Nat.le_of_ble_eq_true rfl) rfl ?_
      refine g_iload_n X dX7_bestArms_60 3 rfl rfl ?_
      refine g_icmp_ge X 82 dX7_bestArms_61 (by decide) (fun c655 => ?_) (fun c655 => ?_)
      · have hf := opos c655 hf
        exact j_X7_bestArms_B24_b82 X hr hne hfl v1 v2 q652.1 q652.2 x1 x2 z.1 z.2.1 x5 z.2.2.1 hf K1 K2
      · have hf := oneg c655 hf
        refine g_sub [0, 1, 2, 5, 6] (lv' := [(0, .ref h0), (1, .int x1), (2, .int x2), (5, .int x5), (6, .int z.2.2.1)]) rfl ?_
        exact j_X7_bestArms_B24_b64 X hr hne hfl v1 v2 q652.1 q652.2 x1 x2 x5 z.2.2.1 hf K1 K2
set_option maxRecDepth 100000 in
set_option maxHeartbeats 4000000 in
theorem w_X7_bestArms_B24 {p : Program} {l : Launch} {e : Env} {s : State} {m : MethodId} {args : Array Value} {below : List Frame} {meth : Method} {c : Code} {A : Nat → Prop} {D : va_G} {cy : Nat → ClassId} {ad : (Nat → Nat) × (Nat → Nat)} {Q : State → Prop} (X : gK p s m args meth c A D cy ad cX7_bestArms 7 RX7) (hr : meth.sig.returnType = (some .int)) (hne : ∀ x ∈ c.exceptionTable.toList, False) (hfl : l.stackTraces = false) {h0 h1 h2 h3 h4 h5 h6 h7 h8 h9 a1 a2 a3 a4 : Nat} (v1 : TBv) (v2 : Fn) (x1 : Int32) (x2 : Int32) (x5 : Int32) {n : Nat} {z : Int32 × Int32 × Int32 × SCv × TAv} {q : (Int32 × Int32 × SCv × TAv)} (hf : itl (f_X7_bestArms_B24 v1 v2 x1 x2 x5) n z = some q) (K2 : GW p l e rmX7_bestArms s m args below meth c A D 7 1 6 Q 88 [(0, .ref h0), (1, .int x1), (2, .int x2), (3, .int q.1), (4, .int q.2.1), (5, .int x5)] [] [FP h0 h1 h2 h3 h4 h5 h6 h7 h8 h9, TB cy h2 a1 a2 a3 v1, SU cy a2 a4 v2, SC a3 q.2.2.1, TA h7 q.2.2.2]) : GW p l e rmX7_bestArms s m args below meth c A D 7 1 6 Q 24 [(0, .ref h0), (1, .int x1), (2, .int x2), (3, .int z.1), (4, .int z.2.1), (5, .int x5), (6, .int z.2.2.1)] [] [FP h0 h1 h2 h3 h4 h5 h6 h7 h8 h9, TB cy h2 a1 a2 a3 v1, SU cy a2 a4 v2, SC a3 z.2.2.2.1, TA h7 z.2.2.2.2] :=
  itl_ind (f := f_X7_bestArms_B24 v1 v2 x1 x2 x5) (I := fun z => GW p l e rmX7_bestArms s m args below meth c A D 7 1 6 Q 24 [(0, .ref h0), (1, .int x1), (2, .int x2), (3, .int z.1), (4, .int z.2.1), (5, .int x5), (6, .int z.2.2.1)] [] [FP h0 h1 h2 h3 h4 h5 h6 h7 h8 h9, TB cy h2 a1 a2 a3 v1, SU cy a2 a4 v2, SC a3 z.2.2.2.1, TA h7 z.2.2.2.2]) (J := (fun q => GW p l e rmX7_bestArms s m args below meth c A D 7 1 6 Q 88 [(0, .ref h0), (1, .int x1), (2, .int x2), (3, .int q.1), (4, .int q.2.1), (5, .int x5)] [] [FP h0 h1 h2 h3 h4 h5 h6 h7 h8 h9, TB cy h2 a1 a2 a3 v1, SU cy a2 a4 v2, SC a3 q.2.2.1, TA h7 q.2.2.2])) (fun z x h k1 k2 => b_X7_bestArms_B24 X hr hne hfl v1 v2 x1 x2 x5 z h (fun s' hs => k1 s' hs) (fun e' he => k2 e' he)) n z q hf K2
def f_X7_bestArms_B14 (v1 : TBv) (v2 : Fn) (x1 : Int32) (x2 : Int32) (z : Int32 × Int32 × Int32 × SCv × TAv) : Option ((Int32 × Int32 × Int32 × SCv × TAv) ⊕ ((Int32 × SCv × TAv))) :=
  if (20 : Int32) < z.2.2.1 then some (.inr ((z.2.1, z.2.2.2.1, z.2.2.2.2))) else (itl (f_X7_bestArms_B24 v1 v2 x1 x2 z.2.2.1) FU (z.1, z.2.1, (1 : Int32), z.2.2.2.1, z.2.2.2.2)).bind (fun q658 => some (.inl (q658.1, q658.2.1, (z.2.2.1 + (1 : Int32)), q658.2.2.1, q658.2.2.2)))
set_option maxRecDepth 100000 in
set_option maxHeartbeats 4000000 in
theorem b_X7_bestArms_B14 {p : Program} {l : Launch} {e : Env} {s : State} {m : MethodId} {args : Array Value} {below : List Frame} {meth : Method} {c : Code} {A : Nat → Prop} {D : va_G} {cy : Nat → ClassId} {ad : (Nat → Nat) × (Nat → Nat)} {Q : State → Prop} (X : gK p s m args meth c A D cy ad cX7_bestArms 7 RX7) (hr : meth.sig.returnType = (some .int)) (hne : ∀ x ∈ c.exceptionTable.toList, False) (hfl : l.stackTraces = false) {h0 h1 h2 h3 h4 h5 h6 h7 h8 h9 a1 a2 a3 a4 : Nat} (v1 : TBv) (v2 : Fn) (x1 : Int32) (x2 : Int32) (z : Int32 × Int32 × Int32 × SCv × TAv) {q : (Int32 × Int32 × Int32 × SCv × TAv) ⊕ ((Int32 × SCv × TAv))} (hf : f_X7_bestArms_B14 v1 v2 x1 x2 z = some q) (K1 : ∀ s' : Int32 × Int32 × Int32 × SCv × TAv, q = .inl s' → GW p l e rmX7_bestArms s m args below meth c A D 7 1 6 Q 14 [(0, .ref h0), (1, .int x1), (2, .int x2), (3, .int s'.1), (4, .int s'.2.1), (5, .int s'.2.2.1)] [] [FP h0 h1 h2 h3 h4 h5 h6 h7 h8 h9, TB cy h2 a1 a2 a3 v1, SU cy a2 a4 v2, SC a3 (s'.2.2.2.1.1, s'.2.2.2.1.2.1, s'.2.2.2.1.2.2.1, s'.2.2.2.1.2.2.2.1, s'.2.2.2.1.2.2.2.2.1, s'.2.2.2.1.2.2.2.2.2), TA h7 (s'.2.2.2.2.1, s'.2.2.2.2.2.1, s'.2.2.2.2.2.2)]) (K2 : ∀ e' : Int32 × SCv × TAv, q = .inr (e') → GW p l e rmX7_bestArms s m args below meth c A D 7 1 6 Q 94 [(4, .int e'.1)] [] [FP h0 h1 h2 h3 h4 h5 h6 h7 h8 h9, TB cy h2 a1 a2 a3 v1, SU cy a2 a4 v2, SC a3 (e'.2.1.1, e'.2.1.2.1, e'.2.1.2.2.1, e'.2.1.2.2.2.1, e'.2.1.2.2.2.2.1, e'.2.1.2.2.2.2.2), TA h7 (e'.2.2.1, e'.2.2.2.1, e'.2.2.2.2)]) : GW p l e rmX7_bestArms s m args below meth c A D 7 1 6 Q 14 [(0, .ref h0), (1, .int x1), (2, .int x2), (3, .int z.1), (4, .int z.2.1), (5, .int z.2.2.1)] [] [FP h0 h1 h2 h3 h4 h5 h6 h7 h8 h9, TB cy h2 a1 a2 a3 v1, SU cy a2 a4 v2, SC a3 z.2.2.2.1, TA h7 z.2.2.2.2] := by
  unfold f_X7_bestArms_B14 at hf
  refine g_iload X dX7_bestArms_14 5 rfl ?_
  refine g_bipush X (20 : Int32) dX7_bestArms_16 (by decide) ?_
  refine g_icmp_gt X 94 dX7_bestArms_18 (by decide) (fun c659 => ?_) (fun c659 => ?_)
  · have hf := opos c659 hf
    refine g_sub [4] (lv' := [(4, .int z.2.1)]) rfl ?_
    exact K2 (z.2.1, z.2.2.2.1, z.2.2.2.2) (Option.some.inj hf).symm
  · have hf := oneg c659 hf
    refine g_iconst X (1 : Int32) dX7_bestArms_21 (by decide) ?_
    refine g_istore (lv' := [(0, .ref h0), (1, .int x1), (2, .int x2), (3, .int z.1), (4, .int z.2.1), (5, .int z.2.2.1), (6, .int (1 : Int32))]) X dX7_bestArms_22 [1, 2, 3, 4, 5, 6, 0] (Nat.le_of_ble_eq_true rfl) rfl ?_
    obtain ⟨q658, hq658, hf⟩ := obind hf
    refine w_X7_bestArms_B24 X hr hne hfl v1 v2 x1 x2 z.2.2.1 hq658 ?_
    refine g_iinc (lv' := [(0, .ref h0), (1, .int x1), (2, .int x2), (3, .int q658.1), (4, .int q658.2.1), (5, .int (z.2.2.1 + (1 : Int32)))]) (v := (1 : Int32)) X dX7_bestArms_88 5 rfl (by decide) [1, 2, 3, 4, 5, 0] (Nat.le_of_ble_eq_true rfl) rfl ?_
    refine g_goto X 14 dX7_bestArms_91 (by decide) ?_
    exact K1 (q658.1, q658.2.1, (z.2.2.1 + (1 : Int32)), q658.2.2.1, q658.2.2.2) (Option.some.inj hf).symm
set_option maxRecDepth 100000 in
set_option maxHeartbeats 4000000 in
theorem w_X7_bestArms_B14 {p : Program} {l : Launch} {e : Env} {s : State} {m : MethodId} {args : Array Value} {below : List Frame} {meth : Method} {c : Code} {A : Nat → Prop} {D : va_G} {cy : Nat → ClassId} {ad : (Nat → Nat) × (Nat → Nat)} {Q : State → Prop} (X : gK p s m args meth c A D cy ad cX7_bestArms 7 RX7) (hr : meth.sig.returnType = (some .int)) (hne : ∀ x ∈ c.exceptionTable.toList, False) (hfl : l.stackTraces = false) {h0 h1 h2 h3 h4 h5 h6 h7 h8 h9 a1 a2 a3 a4 : Nat} (v1 : TBv) (v2 : Fn) (x1 : Int32) (x2 : Int32) {n : Nat} {z : Int32 × Int32 × Int32 × SCv × TAv} {q : (Int32 × SCv × TAv)} (hf : itl (f_X7_bestArms_B14 v1 v2 x1 x2) n z = some q) (K2 : GW p l e rmX7_bestArms s m args below meth c A D 7 1 6 Q 94 [(4, .int q.1)] [] [FP h0 h1 h2 h3 h4 h5 h6 h7 h8 h9, TB cy h2 a1 a2 a3 v1, SU cy a2 a4 v2, SC a3 q.2.1, TA h7 q.2.2]) : GW p l e rmX7_bestArms s m args below meth c A D 7 1 6 Q 14 [(0, .ref h0), (1, .int x1), (2, .int x2), (3, .int z.1), (4, .int z.2.1), (5, .int z.2.2.1)] [] [FP h0 h1 h2 h3 h4 h5 h6 h7 h8 h9, TB cy h2 a1 a2 a3 v1, SU cy a2 a4 v2, SC a3 z.2.2.2.1, TA h7 z.2.2.2.2] :=
  itl_ind (f := f_X7_bestArms_B14 v1 v2 x1 x2) (I := fun z => GW p l e rmX7_bestArms s m args below meth c A D 7 1 6 Q 14 [(0, .ref h0), (1, .int x1), (2, .int x2), (3, .int z.1), (4, .int z.2.1), (5, .int z.2.2.1)] [] [FP h0 h1 h2 h3 h4 h5 h6 h7 h8 h9, TB cy h2 a1 a2 a3 v1, SU cy a2 a4 v2, SC a3 z.2.2.2.1, TA h7 z.2.2.2.2]) (J := (fun q => GW p l e rmX7_bestArms s m args below meth c A D 7 1 6 Q 94 [(4, .int q.1)] [] [FP h0 h1 h2 h3 h4 h5 h6 h7 h8 h9, TB cy h2 a1 a2 a3 v1, SU cy a2 a4 v2, SC a3 q.2.1, TA h7 q.2.2])) (fun z x h k1 k2 => b_X7_bestArms_B14 X hr hne hfl v1 v2 x1 x2 z h (fun s' hs => k1 s' hs) (fun e' he => k2 e' he)) n z q hf K2
def f_X7_bestArms (v1 : TBv) (v2 : Fn) (v3 : SCv) (v13 : TAv) (p1 : Int32) (p2 : Int32) : Option ((Int32 × SCv × TAv) ⊕ (Nat × SCv × TAv)) :=
  (f_X7_refuseBadSets v1 p1 p2).bind (Sum.elim (fun q651 => (itl (f_X7_bestArms_B14 v1 v2 p1 p2) FU ((-1 : Int32), (-1 : Int32), (1 : Int32), v3, v13)).bind (fun q660 => some (.inl (q660.1, q660.2.1, q660.2.2)))) (fun q651 => some (.inr (q651, v3, v13))))
set_option maxRecDepth 100000 in
set_option maxHeartbeats 4000000 in
theorem c_X7_bestArms (l : Launch) (D : va_G) (cy : Nat → ClassId) (ad : (Nat → Nat) × (Nat → Nat)) (h0 : Nat) (h1 : Nat) (h2 : Nat) (h3 : Nat) (h4 : Nat) (h5 : Nat) (h6 : Nat) (h7 : Nat) (h8 : Nat) (h9 : Nat) (a1 : Nat) (a2 : Nat) (a3 : Nat) (a4 : Nat) (v1 : TBv) (v2 : Fn) (v3 : SCv) (v13 : TAv) (p1 : Int32) (p2 : Int32) (hfl : l.stackTraces = false) {q : (Int32 × SCv × TAv) ⊕ (Nat × SCv × TAv)} (hf : f_X7_bestArms v1 v2 v3 v13 p1 p2 = some q) : XM l yX7_bestArms cX7_bestArms 7 (some .int) rmX7_bestArms D cy ad [.ref h0, .int p1, .int p2] [FP h0 h1 h2 h3 h4 h5 h6 h7 h8 h9, TB cy h2 a1 a2 a3 v1, SU cy a2 a4 v2, SC a3 v3, TA h7 v13] (Sum.elim (fun q => Sum.inl ((some (.int q.1)), [FP h0 h1 h2 h3 h4 h5 h6 h7 h8 h9, TB cy h2 a1 a2 a3 v1, SU cy a2 a4 v2, SC a3 q.2.1, TA h7 q.2.2])) (fun q => Sum.inr (q.1, [FP h0 h1 h2 h3 h4 h5 h6 h7 h8 h9, TB cy h2 a1 a2 a3 v1, SU cy a2 a4 v2, SC a3 q.2.1, TA h7 q.2.2])) q : xRes) := by
  refine xm_of (lv0 := [(0, .ref h0), (1, .int p1), (2, .int p2)]) (by decide) (Nat.le_of_ble_eq_true rfl) rfl ?_
  intro p e s m args below meth c A X hr hne
  have X : gK p s m args meth c A D cy ad cX7_bestArms 7 RX7 := X
  unfold f_X7_bestArms at hf
  refine g_aload_n X dX7_bestArms_0 0 rfl rfl ?_
  refine g_iload_n X dX7_bestArms_1 1 rfl rfl ?_
  refine g_iload_n X dX7_bestArms_2 2 rfl rfl ?_
  obtain ⟨q651, hq651, hf⟩ := obind hf
  rcases q651 with q651 | q651
  · have hf := sinl hf
    refine g_xcallR (gs' := [FP h0 h1 h2 h3 h4 h5 h6 h7 h8 h9, TB cy h2 a1 a2 a3 v1, SU cy a2 a4 v2, SC a3 v3, TA h7 v13]) (rest := []) X dX7_bestArms_3 (c_X7_refuseBadSets l D cy ad h0 h1 h2 h3 h4 h5 h6 h7 h8 h9 a1 a2 a3 v1 p1 p2 hfl hq651) mf_X7_refuseBadSets mv_X7_refuseBadSets lkm_X7_221 ⟨(Nat.le_of_ble_eq_true rfl), (Nat.le_of_ble_eq_true rfl), (Nat.le_of_ble_eq_true rfl), (Nat.le_of_ble_eq_true rfl)⟩ 0 0 rfl rfl rfl rfl [0, 1, 2, 3, 4] _ (by decide : [0, 1, 2, 3, 4].Perm (List.range 5)) rfl (by decide : [0, 1, 2, 3, 4].Perm (List.range 5)) rfl (Nat.le_of_ble_eq_true rfl) rfl ?_
    refine g_iconst X (-1 : Int32) dX7_bestArms_6 (by decide) ?_
    refine g_istore_n (lv' := [(0, .ref h0), (1, .int p1), (2, .int p2), (3, .int (-1 : Int32))]) X dX7_bestArms_7 [1, 2, 3, 0] rfl (Nat.le_of_ble_eq_true rfl) rfl ?_
    refine g_iconst X (-1 : Int32) dX7_bestArms_8 (by decide) ?_
    refine g_istore (lv' := [(0, .ref h0), (1, .int p1), (2, .int p2), (3, .int (-1 : Int32)), (4, .int (-1 : Int32))]) X dX7_bestArms_9 [1, 2, 3, 4, 0] (Nat.le_of_ble_eq_true rfl) rfl ?_
    refine g_iconst X (1 : Int32) dX7_bestArms_11 (by decide) ?_
    refine g_istore (lv' := [(0, .ref h0), (1, .int p1), (2, .int p2), (3, .int (-1 : Int32)), (4, .int (-1 : Int32)), (5, .int (1 : Int32))]) X dX7_bestArms_12 [1, 2, 3, 4, 5, 0] (Nat.le_of_ble_eq_true rfl) rfl ?_
    obtain ⟨q660, hq660, hf⟩ := obind hf
    refine w_X7_bestArms_B14 X hr hne hfl v1 v2 p1 p2 hq660 ?_
    refine g_iload X dX7_bestArms_94 0 rfl ?_
    have hf := Option.some.inj hf
    subst hf
    exact g_xret (Nat.le_of_ble_eq_true rfl) (Nat.le_of_ble_eq_true rfl) (g_iret X hr dX7_bestArms_96)
  · have hf := sinr hf
    have hf := Option.some.inj hf
    subst hf
    refine g_xcallT (gs' := [FP h0 h1 h2 h3 h4 h5 h6 h7 h8 h9, TB cy h2 a1 a2 a3 v1, SU cy a2 a4 v2, SC a3 v3, TA h7 v13]) (rest := []) X dX7_bestArms_3 (c_X7_refuseBadSets l D cy ad h0 h1 h2 h3 h4 h5 h6 h7 h8 h9 a1 a2 a3 v1 p1 p2 hfl hq651) mf_X7_refuseBadSets mv_X7_refuseBadSets lkm_X7_221 ⟨(Nat.le_of_ble_eq_true rfl), (Nat.le_of_ble_eq_true rfl), (Nat.le_of_ble_eq_true rfl), (Nat.le_of_ble_eq_true rfl)⟩ 0 0 rfl rfl rfl rfl [0, 1, 2, 3, 4] _ (by decide : [0, 1, 2, 3, 4].Perm (List.range 5)) rfl (by decide : [0, 1, 2, 3, 4].Perm (List.range 5)) rfl (Nat.le_of_ble_eq_true rfl) rfl ?_
    exact g_xout X hne (Nat.le_of_ble_eq_true rfl) (Nat.le_of_ble_eq_true rfl)
abbrev rmX7_tryCoins : Room := ({ frames := 3, cells := 0, slots := 0, locals := 74 } : Room)
def f_X7_tryCoins_b50 (v4 : TBv) (v5 : Fn) (v6 : SCv) (y0 : Int32) (y1 : Int32) : Option (Bool × TBv × Fn × SCv) :=
  (f_X4_tryWeighing v4 v5 v6 y1 y0).bind (fun q670 => some (q670.1, q670.2.1, q670.2.2.1, q670.2.2.2))
set_option maxRecDepth 100000 in
set_option maxHeartbeats 4000000 in
theorem j_X7_tryCoins_b50 {p : Program} {l : Launch} {e : Env} {s : State} {m : MethodId} {args : Array Value} {below : List Frame} {meth : Method} {c : Code} {A : Nat → Prop} {D : va_G} {cy : Nat → ClassId} {ad : (Nat → Nat) × (Nat → Nat)} (X : gK p s m args meth c A D cy ad cX7_tryCoins 3 RX7) (hr : meth.sig.returnType = (some .boolean)) {h0 h1 h2 h3 h4 h5 h6 h7 h8 h9 b1 b2 b3 b4 : Nat} (v4 : TBv) (v5 : Fn) (v6 : SCv) (y0 : Int32) (y1 : Int32) {q : Bool × TBv × Fn × SCv} (hf : f_X7_tryCoins_b50 v4 v5 v6 y0 y1 = some q) : GW p l e rmX7_tryCoins s m args below meth c A D 3 0 0 (MQ below (cmQ D cy A (some (.int (b2i q.1))) ([FP h0 h1 h2 h3 h4 h5 h6 h7 h8 h9, TB cy h3 b1 b2 b3 q.2.1, SU cy b2 b4 q.2.2.1, SC b3 q.2.2.2] : List va_W).flatten) args s 0 0 A) 50 [] [.int y0, .int y1, .ref h3] [FP h0 h1 h2 h3 h4 h5 h6 h7 h8 h9, TB cy h3 b1 b2 b3 v4, SU cy b2 b4 v5, SC b3 v6] := by
  unfold f_X7_tryCoins_b50 at hf
  obtain ⟨q670, hq670, hf⟩ := obind hf
  refine g_callV (gs' := [FP h0 h1 h2 h3 h4 h5 h6 h7 h8 h9, TB cy h3 b1 b2 b3 q670.2.1, SU cy b2 b4 q670.2.2.1, SC b3 q670.2.2.2]) (rest := []) X dX7_tryCoins_50 (c_X4_tryWeighing l D cy ad h3 b1 b2 b3 b4 v4 v5 v6 y1 y0 hq670) mf_X4_tryWeighing mv_X4_tryWeighing lkm_X7_142 ⟨(Nat.le_of_ble_eq_true rfl), (Nat.le_of_ble_eq_true rfl), (Nat.le_of_ble_eq_true rfl), (Nat.le_of_ble_eq_true rfl)⟩ 1 0 rfl rfl rfl rfl [1, 2, 3, 0] _ (by decide : [1, 2, 3, 0].Perm (List.range 4)) rfl (by decide : [1, 2, 3, 0].Perm (List.range 4)) rfl (Nat.le_of_ble_eq_true rfl) rfl ?_
  have hf := Option.some.inj hf
  subst hf
  exact g_zret (b := q670.1) X hr dX7_tryCoins_53
def f_X7_tryCoins_b30 (v4 : TBv) (v5 : Fn) (v6 : SCv) (x1 : Int32) (x2 : Int32) : Option (Bool × TBv × Fn × SCv) :=
  if x2 = (99 : Int32) then f_X7_tryCoins_b50 v4 v5 v6 (0 : Int32) ((1 : Int32) <<< (x1 &&& 31)) else f_X7_tryCoins_b50 v4 v5 v6 ((1 : Int32) <<< (x2 &&& 31)) ((1 : Int32) <<< (x1 &&& 31))
set_option maxRecDepth 100000 in
set_option maxHeartbeats 4000000 in
theorem j_X7_tryCoins_b30 {p : Program} {l : Launch} {e : Env} {s : State} {m : MethodId} {args : Array Value} {below : List Frame} {meth : Method} {c : Code} {A : Nat → Prop} {D : va_G} {cy : Nat → ClassId} {ad : (Nat → Nat) × (Nat → Nat)} (X : gK p s m args meth c A D cy ad cX7_tryCoins 3 RX7) (hr : meth.sig.returnType = (some .boolean)) {h0 h1 h2 h3 h4 h5 h6 h7 h8 h9 b1 b2 b3 b4 : Nat} (v4 : TBv) (v5 : Fn) (v6 : SCv) (x1 : Int32) (x2 : Int32) {q : Bool × TBv × Fn × SCv} (hf : f_X7_tryCoins_b30 v4 v5 v6 x1 x2 = some q) : GW p l e rmX7_tryCoins s m args below meth c A D 3 0 0 (MQ below (cmQ D cy A (some (.int (b2i q.1))) ([FP h0 h1 h2 h3 h4 h5 h6 h7 h8 h9, TB cy h3 b1 b2 b3 q.2.1, SU cy b2 b4 q.2.2.1, SC b3 q.2.2.2] : List va_W).flatten) args s 0 0 A) 30 [(0, .ref h0), (1, .int x1), (2, .int x2)] [] [FP h0 h1 h2 h3 h4 h5 h6 h7 h8 h9, TB cy h3 b1 b2 b3 v4, SU cy b2 b4 v5, SC b3 v6] := by
  unfold f_X7_tryCoins_b30 at hf
  refine g_aload_n X dX7_tryCoins_30 0 rfl rfl ?_
  refine g_get X dX7_tryCoins_31 ck_X7 0 0 2 rfl rfl (Nat.le_of_ble_eq_true rfl) lkf_X7_23 rfl ?_
  refine g_iconst X (1 : Int32) dX7_tryCoins_34 (by decide) ?_
  refine g_iload_n X dX7_tryCoins_35 1 rfl rfl ?_
  refine g_ishl X dX7_tryCoins_36 ?_
  refine g_iload_n X dX7_tryCoins_37 2 rfl rfl ?_
  refine g_bipush X (99 : Int32) dX7_tryCoins_38 (by decide) ?_
  refine g_icmp_ne X 47 dX7_tryCoins_40 (by decide) (fun c671 => ?_) (fun c671 => ?_)
  · have hf := oneg c671 hf
    refine g_iconst X (1 : Int32) dX7_tryCoins_47 (by decide) ?_
    refine g_iload_n X dX7_tryCoins_48 2 rfl rfl ?_
    refine g_ishl X dX7_tryCoins_49 ?_
    refine g_sub [] (lv' := []) rfl ?_
    exact j_X7_tryCoins_b50 X hr v4 v5 v6 ((1 : Int32) <<< (x2 &&& 31)) ((1 : Int32) <<< (x1 &&& 31)) hf
  · have hf := opos c671 hf
    refine g_iconst X (0 : Int32) dX7_tryCoins_43 (by decide) ?_
    refine g_goto X 50 dX7_tryCoins_44 (by decide) ?_
    refine g_sub [] (lv' := []) rfl ?_
    exact j_X7_tryCoins_b50 X hr v4 v5 v6 (0 : Int32) ((1 : Int32) <<< (x1 &&& 31)) hf
def f_X7_tryCoins (v4 : TBv) (v5 : Fn) (v6 : SCv) (p1 : Int32) (p2 : Int32) : Option (Bool × TBv × Fn × SCv) :=
  (f_X4_hasCoin v4 p1).bind (fun q669 => if (b2i q669) = 0 then some (false, v4, v5, v6) else if p2 = (99 : Int32) then f_X7_tryCoins_b30 v4 v5 v6 p1 p2 else (f_X4_hasCoin v4 p2).bind (fun q672 => if (b2i q672) = 0 then some (false, v4, v5, v6) else f_X7_tryCoins_b30 v4 v5 v6 p1 p2))
set_option maxRecDepth 100000 in
set_option maxHeartbeats 4000000 in
theorem c_X7_tryCoins (l : Launch) (D : va_G) (cy : Nat → ClassId) (ad : (Nat → Nat) × (Nat → Nat)) (h0 : Nat) (h1 : Nat) (h2 : Nat) (h3 : Nat) (h4 : Nat) (h5 : Nat) (h6 : Nat) (h7 : Nat) (h8 : Nat) (h9 : Nat) (b1 : Nat) (b2 : Nat) (b3 : Nat) (b4 : Nat) (v4 : TBv) (v5 : Fn) (v6 : SCv) (p1 : Int32) (p2 : Int32) {q : Bool × TBv × Fn × SCv} (hf : f_X7_tryCoins v4 v5 v6 p1 p2 = some q) : CM l yX7_tryCoins cX7_tryCoins 3 (some .boolean) rmX7_tryCoins D cy ad [.ref h0, .int p1, .int p2] [FP h0 h1 h2 h3 h4 h5 h6 h7 h8 h9, TB cy h3 b1 b2 b3 v4, SU cy b2 b4 v5, SC b3 v6] (some (.int (b2i q.1))) [FP h0 h1 h2 h3 h4 h5 h6 h7 h8 h9, TB cy h3 b1 b2 b3 q.2.1, SU cy b2 b4 q.2.2.1, SC b3 q.2.2.2] := by
  refine cm_of (lv0 := [(0, .ref h0), (1, .int p1), (2, .int p2)]) (by decide) (Nat.le_of_ble_eq_true rfl) rfl ?_
  intro p e s m args below meth c A X hr hn
  have X : gK p s m args meth c A D cy ad cX7_tryCoins 3 RX7 := X
  unfold f_X7_tryCoins at hf
  refine g_aload_n X dX7_tryCoins_0 0 rfl rfl ?_
  refine g_get X dX7_tryCoins_1 ck_X7 0 0 2 rfl rfl (Nat.le_of_ble_eq_true rfl) lkf_X7_23 rfl ?_
  refine g_iload_n X dX7_tryCoins_4 1 rfl rfl ?_
  obtain ⟨q669, hq669, hf⟩ := obind hf
  refine g_callV (gs' := [FP h0 h1 h2 h3 h4 h5 h6 h7 h8 h9, TB cy h3 b1 b2 b3 v4, SU cy b2 b4 v5, SC b3 v6]) (rest := []) X dX7_tryCoins_5 (c_X4_hasCoin l D cy ad h3 b1 b2 b3 v4 p1 hq669) mf_X4_hasCoin mv_X4_hasCoin lkm_X7_178 ⟨(Nat.le_of_ble_eq_true rfl), (Nat.le_of_ble_eq_true rfl), (Nat.le_of_ble_eq_true rfl), (Nat.le_of_ble_eq_true rfl)⟩ 1 0 rfl rfl rfl rfl [1, 0, 2, 3] _ (by decide : [1, 0, 2, 3].Perm (List.range 4)) rfl (by decide : [1, 0, 2, 3].Perm (List.range 4)) rfl (Nat.le_of_ble_eq_true rfl) rfl ?_
  refine g_if_eq X 28 dX7_tryCoins_8 (by decide) (fun c675 => ?_) (fun c675 => ?_)
  · have hf := opos c675 hf
    refine g_iconst X (0 : Int32) dX7_tryCoins_28 (by decide) ?_
    have hf := Option.some.inj hf
    subst hf
    exact g_zret (b := false) X hr dX7_tryCoins_29
  · have hf := oneg c675 hf
    refine g_iload_n X dX7_tryCoins_11 2 rfl rfl ?_
    refine g_bipush X (99 : Int32) dX7_tryCoins_12 (by decide) ?_
    refine g_icmp_eq X 30 dX7_tryCoins_14 (by decide) (fun c674 => ?_) (fun c674 => ?_)
    · have hf := opos c674 hf
      exact j_X7_tryCoins_b30 X hr v4 v5 v6 p1 p2 hf
    · have hf := oneg c674 hf
      refine g_aload_n X dX7_tryCoins_17 0 rfl rfl ?_
      refine g_get X dX7_tryCoins_18 ck_X7 0 0 2 rfl rfl (Nat.le_of_ble_eq_true rfl) lkf_X7_23 rfl ?_
      refine g_iload_n X dX7_tryCoins_21 2 rfl rfl ?_
      obtain ⟨q672, hq672, hf⟩ := obind hf
      refine g_callV (gs' := [FP h0 h1 h2 h3 h4 h5 h6 h7 h8 h9, TB cy h3 b1 b2 b3 v4, SU cy b2 b4 v5, SC b3 v6]) (rest := []) X dX7_tryCoins_22 (c_X4_hasCoin l D cy ad h3 b1 b2 b3 v4 p2 hq672) mf_X4_hasCoin mv_X4_hasCoin lkm_X7_178 ⟨(Nat.le_of_ble_eq_true rfl), (Nat.le_of_ble_eq_true rfl), (Nat.le_of_ble_eq_true rfl), (Nat.le_of_ble_eq_true rfl)⟩ 1 0 rfl rfl rfl rfl [1, 0, 2, 3] _ (by decide : [1, 0, 2, 3].Perm (List.range 4)) rfl (by decide : [1, 0, 2, 3].Perm (List.range 4)) rfl (Nat.le_of_ble_eq_true rfl) rfl ?_
      refine g_if_ne X 30 dX7_tryCoins_25 (by decide) (fun c673 => ?_) (fun c673 => ?_)
      · have hf := oneg c673 hf
        exact j_X7_tryCoins_b30 X hr v4 v5 v6 p1 p2 hf
      · have hf := opos c673 hf
        refine g_iconst X (0 : Int32) dX7_tryCoins_28 (by decide) ?_
        have hf := Option.some.inj hf
        subst hf
        exact g_zret (b := false) X hr dX7_tryCoins_29
abbrev rmX7_obeyGroup : Room := ({ frames := 4, cells := 0, slots := 0, locals := 96 } : Room)
def f_X7_obeyGroup_b124 (v4 : TBv) (v5 : Fn) (v6 : SCv) (y0 : Bool) (y1 : Int32) : Option (Bool × TBv × Fn × SCv) :=
  (f_X4_blameCoin v4 y1 y0).bind (fun q735 => if (b2i q735.1) = 0 then some (false, q735.2, v5, v6) else some (true, q735.2, v5, v6))
set_option maxRecDepth 100000 in
set_option maxHeartbeats 4000000 in
theorem j_X7_obeyGroup_b124 {p : Program} {l : Launch} {e : Env} {s : State} {m : MethodId} {args : Array Value} {below : List Frame} {meth : Method} {c : Code} {A : Nat → Prop} {D : va_G} {cy : Nat → ClassId} {ad : (Nat → Nat) × (Nat → Nat)} (X : gK p s m args meth c A D cy ad cX7_obeyGroup 5 RX7) (hr : meth.sig.returnType = (some .boolean)) {h0 h1 h2 h3 h4 h5 h6 h7 h8 h9 b1 b2 b3 b4 : Nat} (v4 : TBv) (v5 : Fn) (v6 : SCv) (y0 : Bool) (y1 : Int32) {q : Bool × TBv × Fn × SCv} (hf : f_X7_obeyGroup_b124 v4 v5 v6 y0 y1 = some q) : GW p l e rmX7_obeyGroup s m args below meth c A D 5 0 0 (MQ below (cmQ D cy A (some (.int (b2i q.1))) ([FP h0 h1 h2 h3 h4 h5 h6 h7 h8 h9, TB cy h3 b1 b2 b3 q.2.1, SU cy b2 b4 q.2.2.1, SC b3 q.2.2.2] : List va_W).flatten) args s 0 0 A) 124 [] [.int (b2i y0), .int y1, .ref h3] [FP h0 h1 h2 h3 h4 h5 h6 h7 h8 h9, TB cy h3 b1 b2 b3 v4, SU cy b2 b4 v5, SC b3 v6] := by
  unfold f_X7_obeyGroup_b124 at hf
  obtain ⟨q735, hq735, hf⟩ := obind hf
  refine g_callV (gs' := [FP h0 h1 h2 h3 h4 h5 h6 h7 h8 h9, TB cy h3 b1 b2 b3 q735.2, SU cy b2 b4 v5, SC b3 v6]) (rest := []) X dX7_obeyGroup_124 (c_X4_blameCoin l D cy ad h3 b1 b2 b3 v4 y1 y0 hq735) mf_X4_blameCoin mv_X4_blameCoin lkm_X7_232 ⟨(Nat.le_of_ble_eq_true rfl), (Nat.le_of_ble_eq_true rfl), (Nat.le_of_ble_eq_true rfl), (Nat.le_of_ble_eq_true rfl)⟩ 1 0 rfl rfl rfl rfl [1, 0, 2, 3] _ (by decide : [1, 0, 2, 3].Perm (List.range 4)) rfl (by decide : [1, 0, 2, 3].Perm (List.range 4)) rfl (Nat.le_of_ble_eq_true rfl) rfl ?_
  refine g_if_eq X 134 dX7_obeyGroup_127 (by decide) (fun c736 => ?_) (fun c736 => ?_)
  · have hf := opos c736 hf
    refine g_iconst X (0 : Int32) dX7_obeyGroup_134 (by decide) ?_
    have hf := Option.some.inj hf
    subst hf
    exact g_zret (b := false) X hr dX7_obeyGroup_135
  · have hf := oneg c736 hf
    refine g_iconst X (1 : Int32) dX7_obeyGroup_130 (by decide) ?_
    refine g_goto X 135 dX7_obeyGroup_131 (by decide) ?_
    have hf := Option.some.inj hf
    subst hf
    exact g_zret (b := true) X hr dX7_obeyGroup_135
def f_X7_obeyGroup (v4 : TBv) (v5 : Fn) (v6 : SCv) (p1 : Int32) : Option (Bool × TBv × Fn × SCv) :=
  if (p1 / (10000 : Int32)) = (1 : Int32) then (f_X7_tryCoins v4 v5 v6 ((p1 / (100 : Int32)) - (p1 / (100 : Int32)) / (100 : Int32) * (100 : Int32)) (p1 - p1 / (100 : Int32) * (100 : Int32))).bind (fun q741 => some (q741.1, q741.2.1, q741.2.2.1, q741.2.2.2)) else if (p1 / (10000 : Int32)) = (2 : Int32) then (f_X4_tryArms v4 ((p1 / (100 : Int32)) - (p1 / (100 : Int32)) / (100 : Int32) * (100 : Int32)) (p1 - p1 / (100 : Int32) * (100 : Int32))).bind (fun q740 => some (q740.1, q740.2, v5, v6)) else if (p1 / (10000 : Int32)) = (3 : Int32) then if (1 : Int32) < (p1 - p1 / (100 : Int32) * (100 : Int32)) then some (false, v4, v5, v6) else (f_X4_hasCoin v4 ((p1 / (100 : Int32)) - (p1 / (100 : Int32)) / (100 : Int32) * (100 : Int32))).bind (fun q734 => if (b2i q734) = 0 then some (false, v4, v5, v6) else if (p1 - p1 / (100 : Int32) * (100 : Int32)) = (1 : Int32) then f_X7_obeyGroup_b124 v4 v5 v6 true ((p1 / (100 : Int32)) - (p1 / (100 : Int32)) / (100 : Int32) * (100 : Int32)) else f_X7_obeyGroup_b124 v4 v5 v6 false ((p1 / (100 : Int32)) - (p1 / (100 : Int32)) / (100 : Int32) * (100 : Int32))) else if (p1 / (10000 : Int32)) = (4 : Int32) then if (p1 - p1 / (1000 : Int32) * (1000 : Int32)) = 0 then (f_X7_isPan ((p1 / (1000 : Int32)) - (p1 / (1000 : Int32)) / (10 : Int32) * (10 : Int32))).bind (fun q729 => if (b2i q729) = 0 then some (false, v4, v5, v6) else (f_X4_blamePan v4 ((p1 / (1000 : Int32)) - (p1 / (1000 : Int32)) / (10 : Int32) * (10 : Int32))).bind (fun q730 => if (b2i q730.1) = 0 then some (false, q730.2, v5, v6) else some (true, q730.2, v5, v6))) else some (false, v4, v5, v6) else if (p1 / (10000 : Int32)) = (5 : Int32) then if (p1 - p1 / (10000 : Int32) * (10000 : Int32)) = 0 then (f_X4_tryForgetting v4 v5 v6).bind (fun q726 => if (b2i q726.1) = 0 then some (false, q726.2.1, q726.2.2.1, q726.2.2.2) else some (true, q726.2.1, q726.2.2.1, q726.2.2.2)) else some (false, v4, v5, v6) else if (p1 / (10000 : Int32)) = (6 : Int32) then if ((p1 / (100 : Int32)) - (p1 / (100 : Int32)) / (100 : Int32) * (100 : Int32)) = 0 then (f_X3_count v5).bind (fun q723 => if (p1 - p1 / (100 : Int32) * (100 : Int32)) < q723 then some (false, v4, v5, v6) else some (true, v4, v5, v6)) else some (false, v4, v5, v6) else if (p1 / (10000 : Int32)) = (7 : Int32) then if (9 : Int32) < (p1 - p1 / (100 : Int32) * (100 : Int32)) then some (false, v4, v5, v6) else (f_X4_hasCoin v4 ((p1 / (100 : Int32)) - (p1 / (100 : Int32)) / (100 : Int32) * (100 : Int32))).bind (fun q718 => if (b2i q718) = 0 then some (false, v4, v5, v6) else (f_X3_coinMayBe v5 ((p1 / (100 : Int32)) - (p1 / (100 : Int32)) / (100 : Int32) * (100 : Int32))).bind (fun q719 => if q719 = (p1 - p1 / (10 : Int32) * (10 : Int32)) then some (true, v4, v5, v6) else some (false, v4, v5, v6))) else if (p1 / (10000 : Int32)) = (8 : Int32) then if (9 : Int32) < (p1 - p1 / (10000 : Int32) * (10000 : Int32)) then some (false, v4, v5, v6) else (f_X3_pansMayBe v5).bind (fun q715 => if q715 = (p1 - p1 / (10 : Int32) * (10 : Int32)) then some (true, v4, v5, v6) else some (false, v4, v5, v6)) else if (p1 / (10000 : Int32)) = (9 : Int32) then if (9 : Int32) < (p1 - p1 / (10000 : Int32) * (10000 : Int32)) then some (false, v4, v5, v6) else (f_X3_count v5).bind (fun q711 => (f_X7_weighingsFor q711).bind (fun q712 => if (p1 - p1 / (10 : Int32) * (10 : Int32)) < q712 then some (false, v4, v5, v6) else some (true, v4, v5, v6))) else some (false, v4, v5, v6)
set_option maxRecDepth 100000 in
set_option maxHeartbeats 4000000 in
theorem c_X7_obeyGroup (l : Launch) (D : va_G) (cy : Nat → ClassId) (ad : (Nat → Nat) × (Nat → Nat)) (h0 : Nat) (h1 : Nat) (h2 : Nat) (h3 : Nat) (h4 : Nat) (h5 : Nat) (h6 : Nat) (h7 : Nat) (h8 : Nat) (h9 : Nat) (b1 : Nat) (b2 : Nat) (b3 : Nat) (b4 : Nat) (v4 : TBv) (v5 : Fn) (v6 : SCv) (p1 : Int32) {q : Bool × TBv × Fn × SCv} (hf : f_X7_obeyGroup v4 v5 v6 p1 = some q) : CM l yX7_obeyGroup cX7_obeyGroup 5 (some .boolean) rmX7_obeyGroup D cy ad [.ref h0, .int p1] [FP h0 h1 h2 h3 h4 h5 h6 h7 h8 h9, TB cy h3 b1 b2 b3 v4, SU cy b2 b4 v5, SC b3 v6] (some (.int (b2i q.1))) [FP h0 h1 h2 h3 h4 h5 h6 h7 h8 h9, TB cy h3 b1 b2 b3 q.2.1, SU cy b2 b4 q.2.2.1, SC b3 q.2.2.2] := by
  refine cm_of (lv0 := [(0, .ref h0), (1, .int p1)]) (by decide) (Nat.le_of_ble_eq_true rfl) rfl ?_
  intro p e s m args below meth c A X hr hn
  have X : gK p s m args meth c A D cy ad cX7_obeyGroup 5 RX7 := X
  unfold f_X7_obeyGroup at hf
  refine g_iload_n X dX7_obeyGroup_0 1 rfl rfl ?_
  refine g_bipush X (100 : Int32) dX7_obeyGroup_1 (by decide) ?_
  refine g_idiv X dX7_obeyGroup_3 (by decide) ?_
  refine g_bipush X (100 : Int32) dX7_obeyGroup_4 (by decide) ?_
  refine g_irem X dX7_obeyGroup_6 (by decide) ?_
  refine g_istore_n (lv' := [(0, .ref h0), (1, .int p1), (2, .int ((p1 / (100 : Int32)) - (p1 / (100 : Int32)) / (100 : Int32) * (100 : Int32)))]) X dX7_obeyGroup_7 [1, 2, 0] rfl (Nat.le_of_ble_eq_true rfl) rfl ?_
  refine g_iload_n X dX7_obeyGroup_8 1 rfl rfl ?_
  refine g_bipush X (100 : Int32) dX7_obeyGroup_9 (by decide) ?_
  refine g_irem X dX7_obeyGroup_11 (by decide) ?_
  refine g_istore_n (lv' := [(0, .ref h0), (1, .int p1), (2, .int ((p1 / (100 : Int32)) - (p1 / (100 : Int32)) / (100 : Int32) * (100 : Int32))), (3, .int (p1 - p1 / (100 : Int32) * (100 : Int32)))]) X dX7_obeyGroup_12 [1, 2, 3, 0] rfl (Nat.le_of_ble_eq_true rfl) rfl ?_
  refine g_iload_n X dX7_obeyGroup_13 1 rfl rfl ?_
  refine g_bipush X (10 : Int32) dX7_obeyGroup_14 (by decide) ?_
  refine g_irem X dX7_obeyGroup_16 (by decide) ?_
  refine g_istore (lv' := [(0, .ref h0), (1, .int p1), (2, .int ((p1 / (100 : Int32)) - (p1 / (100 : Int32)) / (100 : Int32) * (100 : Int32))), (3, .int (p1 - p1 / (100 : Int32) * (100 : Int32))), (4, .int (p1 - p1 / (10 : Int32) * (10 : Int32)))]) X dX7_obeyGroup_17 [1, 2, 3, 4, 0] (Nat.le_of_ble_eq_true rfl) rfl ?_
  refine g_iload_n X dX7_obeyGroup_19 1 rfl rfl ?_
  refine g_sipush X (10000 : Int32) dX7_obeyGroup_20 (by decide) ?_
  refine g_idiv X dX7_obeyGroup_23 (by decide) ?_
  by_cases c702 : (p1 / (10000 : Int32)) = (1 : Int32)
  · have hf := opos c702 hf
    refine g_tableIn (off := 52) X 76 dX7_obeyGroup_24 (by rw [c702]; decide) (by rw [c702]; decide) (by rw [c702]; decide) (by decide) ?_
    refine g_aload_n X dX7_obeyGroup_76 0 rfl rfl ?_
    refine g_iload_n X dX7_obeyGroup_77 2 rfl rfl ?_
    refine g_iload_n X dX7_obeyGroup_78 3 rfl rfl ?_
    obtain ⟨q741, hq741, hf⟩ := obind hf
    refine g_callV (gs' := [FP h0 h1 h2 h3 h4 h5 h6 h7 h8 h9, TB cy h3 b1 b2 b3 q741.2.1, SU cy b2 b4 q741.2.2.1, SC b3 q741.2.2.2]) (rest := []) X dX7_obeyGroup_79 (c_X7_tryCoins l D cy ad h0 h1 h2 h3 h4 h5 h6 h7 h8 h9 b1 b2 b3 b4 v4 v5 v6 ((p1 / (100 : Int32)) - (p1 / (100 : Int32)) / (100 : Int32) * (100 : Int32)) (p1 - p1 / (100 : Int32) * (100 : Int32)) hq741) mf_X7_tryCoins mv_X7_tryCoins lkm_X7_320 ⟨(Nat.le_of_ble_eq_true rfl), (Nat.le_of_ble_eq_true rfl), (Nat.le_of_ble_eq_true rfl), (Nat.le_of_ble_eq_true rfl)⟩ 0 0 rfl rfl rfl rfl [0, 1, 2, 3] _ (by decide : [0, 1, 2, 3].Perm (List.range 4)) rfl (by decide : [0, 1, 2, 3].Perm (List.range 4)) rfl (Nat.le_of_ble_eq_true rfl) rfl ?_
    have hf := Option.some.inj hf
    subst hf
    exact g_zret (b := q741.1) X hr dX7_obeyGroup_82
  · have hf := oneg c702 hf
    by_cases c703 : (p1 / (10000 : Int32)) = (2 : Int32)
    · have hf := opos c703 hf
      refine g_tableIn (off := 59) X 83 dX7_obeyGroup_24 (by rw [c703]; decide) (by rw [c703]; decide) (by rw [c703]; decide) (by decide) ?_
      refine g_aload_n X dX7_obeyGroup_83 0 rfl rfl ?_
      refine g_get X dX7_obeyGroup_84 ck_X7 0 0 2 rfl rfl (Nat.le_of_ble_eq_true rfl) lkf_X7_23 rfl ?_
      refine g_iload_n X dX7_obeyGroup_87 2 rfl rfl ?_
      refine g_iload_n X dX7_obeyGroup_88 3 rfl rfl ?_
      obtain ⟨q740, hq740, hf⟩ := obind hf
      refine g_callV (gs' := [FP h0 h1 h2 h3 h4 h5 h6 h7 h8 h9, TB cy h3 b1 b2 b3 q740.2, SU cy b2 b4 v5, SC b3 v6]) (rest := []) X dX7_obeyGroup_89 (c_X4_tryArms l D cy ad h3 b1 b2 b3 v4 ((p1 / (100 : Int32)) - (p1 / (100 : Int32)) / (100 : Int32) * (100 : Int32)) (p1 - p1 / (100 : Int32) * (100 : Int32)) hq740) mf_X4_tryArms mv_X4_tryArms lkm_X7_138 ⟨(Nat.le_of_ble_eq_true rfl), (Nat.le_of_ble_eq_true rfl), (Nat.le_of_ble_eq_true rfl), (Nat.le_of_ble_eq_true rfl)⟩ 1 0 rfl rfl rfl rfl [1, 0, 2, 3] _ (by decide : [1, 0, 2, 3].Perm (List.range 4)) rfl (by decide : [1, 0, 2, 3].Perm (List.range 4)) rfl (Nat.le_of_ble_eq_true rfl) rfl ?_
      have hf := Option.some.inj hf
      subst hf
      exact g_zret (b := q740.1) X hr dX7_obeyGroup_92
    · have hf := oneg c703 hf
      by_cases c704 : (p1 / (10000 : Int32)) = (3 : Int32)
      · have hf := opos c704 hf
        refine g_tableIn (off := 69) X 93 dX7_obeyGroup_24 (by rw [c704]; decide) (by rw [c704]; decide) (by rw [c704]; decide) (by decide) ?_
        refine g_iload_n X dX7_obeyGroup_93 3 rfl rfl ?_
        refine g_iconst X (1 : Int32) dX7_obeyGroup_94 (by decide) ?_
        refine g_icmp_gt X 134 dX7_obeyGroup_95 (by decide) (fun c739 => ?_) (fun c739 => ?_)
        · have hf := opos c739 hf
          refine g_iconst X (0 : Int32) dX7_obeyGroup_134 (by decide) ?_
          have hf := Option.some.inj hf
          subst hf
          exact g_zret (b := false) X hr dX7_obeyGroup_135
        · have hf := oneg c739 hf
          refine g_aload_n X dX7_obeyGroup_98 0 rfl rfl ?_
          refine g_get X dX7_obeyGroup_99 ck_X7 0 0 2 rfl rfl (Nat.le_of_ble_eq_true rfl) lkf_X7_23 rfl ?_
          refine g_iload_n X dX7_obeyGroup_102 2 rfl rfl ?_
          obtain ⟨q734, hq734, hf⟩ := obind hf
          refine g_callV (gs' := [FP h0 h1 h2 h3 h4 h5 h6 h7 h8 h9, TB cy h3 b1 b2 b3 v4, SU cy b2 b4 v5, SC b3 v6]) (rest := []) X dX7_obeyGroup_103 (c_X4_hasCoin l D cy ad h3 b1 b2 b3 v4 ((p1 / (100 : Int32)) - (p1 / (100 : Int32)) / (100 : Int32) * (100 : Int32)) hq734) mf_X4_hasCoin mv_X4_hasCoin lkm_X7_178 ⟨(Nat.le_of_ble_eq_true rfl), (Nat.le_of_ble_eq_true rfl), (Nat.le_of_ble_eq_true rfl), (Nat.le_of_ble_eq_true rfl)⟩ 1 0 rfl rfl rfl rfl [1, 0, 2, 3] _ (by decide : [1, 0, 2, 3].Perm (List.range 4)) rfl (by decide : [1, 0, 2, 3].Perm (List.range 4)) rfl (Nat.le_of_ble_eq_true rfl) rfl ?_
          refine g_if_eq X 134 dX7_obeyGroup_106 (by decide) (fun c738 => ?_) (fun c738 => ?_)
          · have hf := opos c738 hf
            refine g_iconst X (0 : Int32) dX7_obeyGroup_134 (by decide) ?_
            have hf := Option.some.inj hf
            subst hf
            exact g_zret (b := false) X hr dX7_obeyGroup_135
          · have hf := oneg c738 hf
            refine g_aload_n X dX7_obeyGroup_109 0 rfl rfl ?_
            refine g_get X dX7_obeyGroup_110 ck_X7 0 0 2 rfl rfl (Nat.le_of_ble_eq_true rfl) lkf_X7_23 rfl ?_
            refine g_iload_n X dX7_obeyGroup_113 2 rfl rfl ?_
            refine g_iload_n X dX7_obeyGroup_114 3 rfl rfl ?_
            refine g_iconst X (1 : Int32) dX7_obeyGroup_115 (by decide) ?_
            refine g_icmp_ne X 123 dX7_obeyGroup_116 (by decide) (fun c737 => ?_) (fun c737 => ?_)
            · have hf := oneg c737 hf
              refine g_iconst X (0 : Int32) dX7_obeyGroup_123 (by decide) ?_
              refine g_sub [] (lv' := []) rfl ?_
              exact j_X7_obeyGroup_b124 X hr v4 v5 v6 false ((p1 / (100 : Int32)) - (p1 / (100 : Int32)) / (100 : Int32) * (100 : Int32)) hf
            · have hf := opos c737 hf
              refine g_iconst X (1 : Int32) dX7_obeyGroup_119 (by decide) ?_
              refine g_goto X 124 dX7_obeyGroup_120 (by decide) ?_
              refine g_sub [] (lv' := []) rfl ?_
              exact j_X7_obeyGroup_b124 X hr v4 v5 v6 true ((p1 / (100 : Int32)) - (p1 / (100 : Int32)) / (100 : Int32) * (100 : Int32)) hf
      · have hf := oneg c704 hf
        by_cases c705 : (p1 / (10000 : Int32)) = (4 : Int32)
        · have hf := opos c705 hf
          refine g_tableIn (off := 112) X 136 dX7_obeyGroup_24 (by rw [c705]; decide) (by rw [c705]; decide) (by rw [c705]; decide) (by decide) ?_
          refine g_iload_n X dX7_obeyGroup_136 1 rfl rfl ?_
          refine g_sipush X (1000 : Int32) dX7_obeyGroup_137 (by decide) ?_
          refine g_irem X dX7_obeyGroup_140 (by decide) ?_
          refine g_if_ne X 180 dX7_obeyGroup_141 (by decide) (fun c733 => ?_) (fun c733 => ?_)
          · have hf := oneg c733 hf
            refine g_iconst X (0 : Int32) dX7_obeyGroup_180 (by decide) ?_
            have hf := Option.some.inj hf
            subst hf
            exact g_zret (b := false) X hr dX7_obeyGroup_181
          · have hf := opos c733 hf
            refine g_iload_n X dX7_obeyGroup_144 1 rfl rfl ?_
            refine g_sipush X (1000 : Int32) dX7_obeyGroup_145 (by decide) ?_
            refine g_idiv X dX7_obeyGroup_148 (by decide) ?_
            refine g_bipush X (10 : Int32) dX7_obeyGroup_149 (by decide) ?_
            refine g_irem X dX7_obeyGroup_151 (by decide) ?_
            obtain ⟨q729, hq729, hf⟩ := obind hf
            refine g_callS (gs' := [FP h0 h1 h2 h3 h4 h5 h6 h7 h8 h9, TB cy h3 b1 b2 b3 v4, SU cy b2 b4 v5, SC b3 v6]) (rest := []) X dX7_obeyGroup_152 (c_X7_isPan l D cy ad ((p1 / (1000 : Int32)) - (p1 / (1000 : Int32)) / (10 : Int32) * (10 : Int32)) hq729) mf_X7_isPan ms_X7_isPan lkm_X7_236 ⟨(Nat.le_of_ble_eq_true rfl), (Nat.le_of_ble_eq_true rfl), (Nat.le_of_ble_eq_true rfl), (Nat.le_of_ble_eq_true rfl)⟩ [0, 1, 2, 3] _ (by decide : [0, 1, 2, 3].Perm (List.range 4)) rfl (by decide : [0, 1, 2, 3].Perm (List.range 4)) rfl (Nat.le_of_ble_eq_true rfl) rfl ?_
            refine g_if_eq X 180 dX7_obeyGroup_155 (by decide) (fun c732 => ?_) (fun c732 => ?_)
            · have hf := opos c732 hf
              refine g_iconst X (0 : Int32) dX7_obeyGroup_180 (by decide) ?_
              have hf := Option.some.inj hf
              subst hf
              exact g_zret (b := false) X hr dX7_obeyGroup_181
            · have hf := oneg c732 hf
              refine g_aload_n X dX7_obeyGroup_158 0 rfl rfl ?_
              refine g_get X dX7_obeyGroup_159 ck_X7 0 0 2 rfl rfl (Nat.le_of_ble_eq_true rfl) lkf_X7_23 rfl ?_
              refine g_iload_n X dX7_obeyGroup_162 1 rfl rfl ?_
              refine g_sipush X (1000 : Int32) dX7_obeyGroup_163 (by decide) ?_
              refine g_idiv X dX7_obeyGroup_166 (by decide) ?_
              refine g_bipush X (10 : Int32) dX7_obeyGroup_167 (by decide) ?_
              refine g_irem X dX7_obeyGroup_169 (by decide) ?_
              obtain ⟨q730, hq730, hf⟩ := obind hf
              refine g_callV (gs' := [FP h0 h1 h2 h3 h4 h5 h6 h7 h8 h9, TB cy h3 b1 b2 b3 q730.2, SU cy b2 b4 v5, SC b3 v6]) (rest := []) X dX7_obeyGroup_170 (c_X4_blamePan l D cy ad h3 b1 b2 b3 v4 ((p1 / (1000 : Int32)) - (p1 / (1000 : Int32)) / (10 : Int32) * (10 : Int32)) hq730) mf_X4_blamePan mv_X4_blamePan lkm_X7_241 ⟨(Nat.le_of_ble_eq_true rfl), (Nat.le_of_ble_eq_true rfl), (Nat.le_of_ble_eq_true rfl), (Nat.le_of_ble_eq_true rfl)⟩ 1 0 rfl rfl rfl rfl [1, 0, 2, 3] _ (by decide : [1, 0, 2, 3].Perm (List.range 4)) rfl (by decide : [1, 0, 2, 3].Perm (List.range 4)) rfl (Nat.le_of_ble_eq_true rfl) rfl ?_
              refine g_if_eq X 180 dX7_obeyGroup_173 (by decide) (fun c731 => ?_) (fun c731 => ?_)
              · have hf := opos c731 hf
                refine g_iconst X (0 : Int32) dX7_obeyGroup_180 (by decide) ?_
                have hf := Option.some.inj hf
                subst hf
                exact g_zret (b := false) X hr dX7_obeyGroup_181
              · have hf := oneg c731 hf
                refine g_iconst X (1 : Int32) dX7_obeyGroup_176 (by decide) ?_
                refine g_goto X 181 dX7_obeyGroup_177 (by decide) ?_
                have hf := Option.some.inj hf
                subst hf
                exact g_zret (b := true) X hr dX7_obeyGroup_181
        · have hf := oneg c705 hf
          by_cases c706 : (p1 / (10000 : Int32)) = (5 : Int32)
          · have hf := opos c706 hf
            refine g_tableIn (off := 158) X 182 dX7_obeyGroup_24 (by rw [c706]; decide) (by rw [c706]; decide) (by rw [c706]; decide) (by decide) ?_
            refine g_iload_n X dX7_obeyGroup_182 1 rfl rfl ?_
            refine g_sipush X (10000 : Int32) dX7_obeyGroup_183 (by decide) ?_
            refine g_irem X dX7_obeyGroup_186 (by decide) ?_
            refine g_if_ne X 204 dX7_obeyGroup_187 (by decide) (fun c728 => ?_) (fun c728 => ?_)
            · have hf := oneg c728 hf
              refine g_iconst X (0 : Int32) dX7_obeyGroup_204 (by decide) ?_
              have hf := Option.some.inj hf
              subst hf
              exact g_zret (b := false) X hr dX7_obeyGroup_205
            · have hf := opos c728 hf
              refine g_aload_n X dX7_obeyGroup_190 0 rfl rfl ?_
              refine g_get X dX7_obeyGroup_191 ck_X7 0 0 2 rfl rfl (Nat.le_of_ble_eq_true rfl) lkf_X7_23 rfl ?_
              obtain ⟨q726, hq726, hf⟩ := obind hf
              refine g_callV (gs' := [FP h0 h1 h2 h3 h4 h5 h6 h7 h8 h9, TB cy h3 b1 b2 b3 q726.2.1, SU cy b2 b4 q726.2.2.1, SC b3 q726.2.2.2]) (rest := []) X dX7_obeyGroup_194 (c_X4_tryForgetting l D cy ad h3 b1 b2 b3 b4 v4 v5 v6 hq726) mf_X4_tryForgetting mv_X4_tryForgetting lkm_X7_246 ⟨(Nat.le_of_ble_eq_true rfl), (Nat.le_of_ble_eq_true rfl), (Nat.le_of_ble_eq_true rfl), (Nat.le_of_ble_eq_true rfl)⟩ 1 0 rfl rfl rfl rfl [1, 2, 3, 0] _ (by decide : [1, 2, 3, 0].Perm (List.range 4)) rfl (by decide : [1, 2, 3, 0].Perm (List.range 4)) rfl (Nat.le_of_ble_eq_true rfl) rfl ?_
              refine g_if_eq X 204 dX7_obeyGroup_197 (by decide) (fun c727 => ?_) (fun c727 => ?_)
              · have hf := opos c727 hf
                refine g_iconst X (0 : Int32) dX7_obeyGroup_204 (by decide) ?_
                have hf := Option.some.inj hf
                subst hf
                exact g_zret (b := false) X hr dX7_obeyGroup_205
              · have hf := oneg c727 hf
                refine g_iconst X (1 : Int32) dX7_obeyGroup_200 (by decide) ?_
                refine g_goto X 205 dX7_obeyGroup_201 (by decide) ?_
                have hf := Option.some.inj hf
                subst hf
                exact g_zret (b := true) X hr dX7_obeyGroup_205
          · have hf := oneg c706 hf
            by_cases c707 : (p1 / (10000 : Int32)) = (6 : Int32)
            · have hf := opos c707 hf
              refine g_tableIn (off := 182) X 206 dX7_obeyGroup_24 (by rw [c707]; decide) (by rw [c707]; decide) (by rw [c707]; decide) (by decide) ?_
              refine g_iload_n X dX7_obeyGroup_206 2 rfl rfl ?_
              refine g_if_ne X 228 dX7_obeyGroup_207 (by decide) (fun c725 => ?_) (fun c725 => ?_)
              · have hf := oneg c725 hf
                refine g_iconst X (0 : Int32) dX7_obeyGroup_228 (by decide) ?_
                have hf := Option.some.inj hf
                subst hf
                exact g_zret (b := false) X hr dX7_obeyGroup_229
              · have hf := opos c725 hf
                refine g_aload_n X dX7_obeyGroup_210 0 rfl rfl ?_
                refine g_get X dX7_obeyGroup_211 ck_X7 0 0 2 rfl rfl (Nat.le_of_ble_eq_true rfl) lkf_X7_23 rfl ?_
                refine g_get X dX7_obeyGroup_214 ck_X4 1 0 8 rfl rfl (Nat.le_of_ble_eq_true rfl) lkf_X7_149 rfl ?_
                obtain ⟨q723, hq723, hf⟩ := obind hf
                refine g_callV (gs' := [FP h0 h1 h2 h3 h4 h5 h6 h7 h8 h9, TB cy h3 b1 b2 b3 v4, SU cy b2 b4 v5, SC b3 v6]) (rest := []) X dX7_obeyGroup_217 (c_X3_count l D cy ad b2 b4 v5 hq723) mf_X3_count mv_X3_count lkm_X7_153 ⟨(Nat.le_of_ble_eq_true rfl), (Nat.le_of_ble_eq_true rfl), (Nat.le_of_ble_eq_true rfl), (Nat.le_of_ble_eq_true rfl)⟩ 2 0 rfl rfl rfl rfl [2, 0, 1, 3] _ (by decide : [2, 0, 1, 3].Perm (List.range 4)) rfl (by decide : [2, 0, 1, 3].Perm (List.range 4)) rfl (Nat.le_of_ble_eq_true rfl) rfl ?_
                refine g_iload_n X dX7_obeyGroup_220 3 rfl rfl ?_
                refine g_icmp_gt X 228 dX7_obeyGroup_221 (by decide) (fun c724 => ?_) (fun c724 => ?_)
                · have hf := opos c724 hf
                  refine g_iconst X (0 : Int32) dX7_obeyGroup_228 (by decide) ?_
                  have hf := Option.some.inj hf
                  subst hf
                  exact g_zret (b := false) X hr dX7_obeyGroup_229
                · have hf := oneg c724 hf
                  refine g_iconst X (1 : Int32) dX7_obeyGroup_224 (by decide) ?_
                  refine g_goto X 229 dX7_obeyGroup_225 (by decide) ?_
                  have hf := Option.some.inj hf
                  subst hf
                  exact g_zret (b := true) X hr dX7_obeyGroup_229
            · have hf := oneg c707 hf
              by_cases c708 : (p1 / (10000 : Int32)) = (7 : Int32)
              · have hf := opos c708 hf
                refine g_tableIn (off := 206) X 230 dX7_obeyGroup_24 (by rw [c708]; decide) (by rw [c708]; decide) (by rw [c708]; decide) (by decide) ?_
                refine g_iload_n X dX7_obeyGroup_230 3 rfl rfl ?_
                refine g_bipush X (9 : Int32) dX7_obeyGroup_231 (by decide) ?_
                refine g_icmp_gt X 267 dX7_obeyGroup_233 (by decide) (fun c722 => ?_) (fun c722 => ?_)
                · have hf := opos c722 hf
                  refine g_iconst X (0 : Int32) dX7_obeyGroup_267 (by decide) ?_
                  have hf := Option.some.inj hf
                  subst hf
                  exact g_zret (b := false) X hr dX7_obeyGroup_268
                · have hf := oneg c722 hf
                  refine g_aload_n X dX7_obeyGroup_236 0 rfl rfl ?_
                  refine g_get X dX7_obeyGroup_237 ck_X7 0 0 2 rfl rfl (Nat.le_of_ble_eq_true rfl) lkf_X7_23 rfl ?_
                  refine g_iload_n X dX7_obeyGroup_240 2 rfl rfl ?_
                  obtain ⟨q718, hq718, hf⟩ := obind hf
                  refine g_callV (gs' := [FP h0 h1 h2 h3 h4 h5 h6 h7 h8 h9, TB cy h3 b1 b2 b3 v4, SU cy b2 b4 v5, SC b3 v6]) (rest := []) X dX7_obeyGroup_241 (c_X4_hasCoin l D cy ad h3 b1 b2 b3 v4 ((p1 / (100 : Int32)) - (p1 / (100 : Int32)) / (100 : Int32) * (100 : Int32)) hq718) mf_X4_hasCoin mv_X4_hasCoin lkm_X7_178 ⟨(Nat.le_of_ble_eq_true rfl), (Nat.le_of_ble_eq_true rfl), (Nat.le_of_ble_eq_true rfl), (Nat.le_of_ble_eq_true rfl)⟩ 1 0 rfl rfl rfl rfl [1, 0, 2, 3] _ (by decide : [1, 0, 2, 3].Perm (List.range 4)) rfl (by decide : [1, 0, 2, 3].Perm (List.range 4)) rfl (Nat.le_of_ble_eq_true rfl) rfl ?_
                  refine g_if_eq X 267 dX7_obeyGroup_244 (by decide) (fun c721 => ?_) (fun c721 => ?_)
                  · have hf := opos c721 hf
                    refine g_iconst X (0 : Int32) dX7_obeyGroup_267 (by decide) ?_
                    have hf := Option.some.inj hf
                    subst hf
                    exact g_zret (b := false) X hr dX7_obeyGroup_268
                  · have hf := oneg c721 hf
                    refine g_aload_n X dX7_obeyGroup_247 0 rfl rfl ?_
                    refine g_get X dX7_obeyGroup_248 ck_X7 0 0 2 rfl rfl (Nat.le_of_ble_eq_true rfl) lkf_X7_23 rfl ?_
                    refine g_get X dX7_obeyGroup_251 ck_X4 1 0 8 rfl rfl (Nat.le_of_ble_eq_true rfl) lkf_X7_149 rfl ?_
                    refine g_iload_n X dX7_obeyGroup_254 2 rfl rfl ?_
                    obtain ⟨q719, hq719, hf⟩ := obind hf
                    refine g_callV (gs' := [FP h0 h1 h2 h3 h4 h5 h6 h7 h8 h9, TB cy h3 b1 b2 b3 v4, SU cy b2 b4 v5, SC b3 v6]) (rest := []) X dX7_obeyGroup_255 (c_X3_coinMayBe l D cy ad b2 b4 v5 ((p1 / (100 : Int32)) - (p1 / (100 : Int32)) / (100 : Int32) * (100 : Int32)) hq719) mf_X3_coinMayBe mv_X3_coinMayBe lkm_X7_187 ⟨(Nat.le_of_ble_eq_true rfl), (Nat.le_of_ble_eq_true rfl), (Nat.le_of_ble_eq_true rfl), (Nat.le_of_ble_eq_true rfl)⟩ 2 0 rfl rfl rfl rfl [2, 0, 1, 3] _ (by decide : [2, 0, 1, 3].Perm (List.range 4)) rfl (by decide : [2, 0, 1, 3].Perm (List.range 4)) rfl (Nat.le_of_ble_eq_true rfl) rfl ?_
                    refine g_iload X dX7_obeyGroup_258 4 rfl ?_
                    refine g_icmp_ne X 267 dX7_obeyGroup_260 (by decide) (fun c720 => ?_) (fun c720 => ?_)
                    · have hf := oneg c720 hf
                      refine g_iconst X (0 : Int32) dX7_obeyGroup_267 (by decide) ?_
                      have hf := Option.some.inj hf
                      subst hf
                      exact g_zret (b := false) X hr dX7_obeyGroup_268
                    · have hf := opos c720 hf
                      refine g_iconst X (1 : Int32) dX7_obeyGroup_263 (by decide) ?_
                      refine g_goto X 268 dX7_obeyGroup_264 (by decide) ?_
                      have hf := Option.some.inj hf
                      subst hf
                      exact g_zret (b := true) X hr dX7_obeyGroup_268
              · have hf := oneg c708 hf
                by_cases c709 : (p1 / (10000 : Int32)) = (8 : Int32)
                · have hf := opos c709 hf
                  refine g_tableIn (off := 245) X 269 dX7_obeyGroup_24 (by rw [c709]; decide) (by rw [c709]; decide) (by rw [c709]; decide) (by decide) ?_
                  refine g_iload_n X dX7_obeyGroup_269 1 rfl rfl ?_
                  refine g_sipush X (10000 : Int32) dX7_obeyGroup_270 (by decide) ?_
                  refine g_irem X dX7_obeyGroup_273 (by decide) ?_
                  refine g_bipush X (9 : Int32) dX7_obeyGroup_274 (by decide) ?_
                  refine g_icmp_gt X 298 dX7_obeyGroup_276 (by decide) (fun c717 => ?_) (fun c717 => ?_)
                  · have hf := opos c717 hf
                    refine g_iconst X (0 : Int32) dX7_obeyGroup_298 (by decide) ?_
                    have hf := Option.some.inj hf
                    subst hf
                    exact g_zret (b := false) X hr dX7_obeyGroup_299
                  · have hf := oneg c717 hf
                    refine g_aload_n X dX7_obeyGroup_279 0 rfl rfl ?_
                    refine g_get X dX7_obeyGroup_280 ck_X7 0 0 2 rfl rfl (Nat.le_of_ble_eq_true rfl) lkf_X7_23 rfl ?_
                    refine g_get X dX7_obeyGroup_283 ck_X4 1 0 8 rfl rfl (Nat.le_of_ble_eq_true rfl) lkf_X7_149 rfl ?_
                    obtain ⟨q715, hq715, hf⟩ := obind hf
                    refine g_callV (gs' := [FP h0 h1 h2 h3 h4 h5 h6 h7 h8 h9, TB cy h3 b1 b2 b3 v4, SU cy b2 b4 v5, SC b3 v6]) (rest := []) X dX7_obeyGroup_286 (c_X3_pansMayBe l D cy ad b2 b4 v5 hq715) mf_X3_pansMayBe mv_X3_pansMayBe lkm_X7_191 ⟨(Nat.le_of_ble_eq_true rfl), (Nat.le_of_ble_eq_true rfl), (Nat.le_of_ble_eq_true rfl), (Nat.le_of_ble_eq_true rfl)⟩ 2 0 rfl rfl rfl rfl [2, 0, 1, 3] _ (by decide : [2, 0, 1, 3].Perm (List.range 4)) rfl (by decide : [2, 0, 1, 3].Perm (List.range 4)) rfl (Nat.le_of_ble_eq_true rfl) rfl ?_
                    refine g_iload X dX7_obeyGroup_289 4 rfl ?_
                    refine g_icmp_ne X 298 dX7_obeyGroup_291 (by decide) (fun c716 => ?_) (fun c716 => ?_)
                    · have hf := oneg c716 hf
                      refine g_iconst X (0 : Int32) dX7_obeyGroup_298 (by decide) ?_
                      have hf := Option.some.inj hf
                      subst hf
                      exact g_zret (b := false) X hr dX7_obeyGroup_299
                    · have hf := opos c716 hf
                      refine g_iconst X (1 : Int32) dX7_obeyGroup_294 (by decide) ?_
                      refine g_goto X 299 dX7_obeyGroup_295 (by decide) ?_
                      have hf := Option.some.inj hf
                      subst hf
                      exact g_zret (b := true) X hr dX7_obeyGroup_299
                · have hf := oneg c709 hf
                  by_cases c710 : (p1 / (10000 : Int32)) = (9 : Int32)
                  · have hf := opos c710 hf
                    refine g_tableIn (off := 276) X 300 dX7_obeyGroup_24 (by rw [c710]; decide) (by rw [c710]; decide) (by rw [c710]; decide) (by decide) ?_
                    refine g_iload_n X dX7_obeyGroup_300 1 rfl rfl ?_
                    refine g_sipush X (10000 : Int32) dX7_obeyGroup_301 (by decide) ?_
                    refine g_irem X dX7_obeyGroup_304 (by decide) ?_
                    refine g_bipush X (9 : Int32) dX7_obeyGroup_305 (by decide) ?_
                    refine g_icmp_gt X 332 dX7_obeyGroup_307 (by decide) (fun c714 => ?_) (fun c714 => ?_)
                    · have hf := opos c714 hf
                      refine g_iconst X (0 : Int32) dX7_obeyGroup_332 (by decide) ?_
                      have hf := Option.some.inj hf
                      subst hf
                      exact g_zret (b := false) X hr dX7_obeyGroup_333
                    · have hf := oneg c714 hf
                      refine g_aload_n X dX7_obeyGroup_310 0 rfl rfl ?_
                      refine g_get X dX7_obeyGroup_311 ck_X7 0 0 2 rfl rfl (Nat.le_of_ble_eq_true rfl) lkf_X7_23 rfl ?_
                      refine g_get X dX7_obeyGroup_314 ck_X4 1 0 8 rfl rfl (Nat.le_of_ble_eq_true rfl) lkf_X7_149 rfl ?_
                      obtain ⟨q711, hq711, hf⟩ := obind hf
                      refine g_callV (gs' := [FP h0 h1 h2 h3 h4 h5 h6 h7 h8 h9, TB cy h3 b1 b2 b3 v4, SU cy b2 b4 v5, SC b3 v6]) (rest := []) X dX7_obeyGroup_317 (c_X3_count l D cy ad b2 b4 v5 hq711) mf_X3_count mv_X3_count lkm_X7_153 ⟨(Nat.le_of_ble_eq_true rfl), (Nat.le_of_ble_eq_true rfl), (Nat.le_of_ble_eq_true rfl), (Nat.le_of_ble_eq_true rfl)⟩ 2 0 rfl rfl rfl rfl [2, 0, 1, 3] _ (by decide : [2, 0, 1, 3].Perm (List.range 4)) rfl (by decide : [2, 0, 1, 3].Perm (List.range 4)) rfl (Nat.le_of_ble_eq_true rfl) rfl ?_
                      obtain ⟨q712, hq712, hf⟩ := obind hf
                      refine g_callS (gs' := [FP h0 h1 h2 h3 h4 h5 h6 h7 h8 h9, TB cy h3 b1 b2 b3 v4, SU cy b2 b4 v5, SC b3 v6]) (rest := []) X dX7_obeyGroup_320 (c_X7_weighingsFor l D cy ad q711 hq712) mf_X7_weighingsFor ms_X7_weighingsFor lkm_X7_275 ⟨(Nat.le_of_ble_eq_true rfl), (Nat.le_of_ble_eq_true rfl), (Nat.le_of_ble_eq_true rfl), (Nat.le_of_ble_eq_true rfl)⟩ [0, 1, 2, 3] _ (by decide : [0, 1, 2, 3].Perm (List.range 4)) rfl (by decide : [0, 1, 2, 3].Perm (List.range 4)) rfl (Nat.le_of_ble_eq_true rfl) rfl ?_
                      refine g_iload X dX7_obeyGroup_323 4 rfl ?_
                      refine g_icmp_gt X 332 dX7_obeyGroup_325 (by decide) (fun c713 => ?_) (fun c713 => ?_)
                      · have hf := opos c713 hf
                        refine g_iconst X (0 : Int32) dX7_obeyGroup_332 (by decide) ?_
                        have hf := Option.some.inj hf
                        subst hf
                        exact g_zret (b := false) X hr dX7_obeyGroup_333
                      · have hf := oneg c713 hf
                        refine g_iconst X (1 : Int32) dX7_obeyGroup_328 (by decide) ?_
                        refine g_goto X 333 dX7_obeyGroup_329 (by decide) ?_
                        have hf := Option.some.inj hf
                        subst hf
                        exact g_zret (b := true) X hr dX7_obeyGroup_333
                  · have hf := oneg c710 hf
                    refine g_tableOut X 334 dX7_obeyGroup_24 (sw_out (fun k9 h91 h92 h93 => ?_)) (by decide) ?_
                    · have := sw_ne (by decide : ((1 : Int32)).toInt = 1) c702
                      have := sw_ne (by decide : ((2 : Int32)).toInt = 2) c703
                      have := sw_ne (by decide : ((3 : Int32)).toInt = 3) c704
                      have := sw_ne (by decide : ((4 : Int32)).toInt = 4) c705
                      have := sw_ne (by decide : ((5 : Int32)).toInt = 5) c706
                      have := sw_ne (by decide : ((6 : Int32)).toInt = 6) c707
                      have := sw_ne (by decide : ((7 : Int32)).toInt = 7) c708
                      have := sw_ne (by decide : ((8 : Int32)).toInt = 8) c709
                      have := sw_ne (by decide : ((9 : Int32)).toInt = 9) c710
                      omega
                    · refine g_iconst X (0 : Int32) dX7_obeyGroup_334 (by decide) ?_
                      have hf := Option.some.inj hf
                      subst hf
                      exact g_zret (b := false) X hr dX7_obeyGroup_335
abbrev rmX7_runScript : Room := ({ frames := 6, cells := 1, slots := 6, locals := 120 } : Room)
def f_X7_runScript_b10 (v1 : TBv) (v2 : Fn) (v4 : TBv) (v5 : Fn) (v6 : SCv) : Option ((Int32 × TBv × Fn × SCv) ⊕ (Nat × TBv × Fn × SCv)) :=
  some (.inr (1, v4, v5, v6))
set_option maxRecDepth 100000 in
set_option maxHeartbeats 4000000 in
theorem j_X7_runScript_b10 {p : Program} {l : Launch} {e : Env} {s : State} {m : MethodId} {args : Array Value} {below : List Frame} {meth : Method} {c : Code} {A : Nat → Prop} {D : va_G} {cy : Nat → ClassId} {ad : (Nat → Nat) × (Nat → Nat)} (X : gK p s m args meth c A D cy ad cX7_runScript 5 RX7) (hr : meth.sig.returnType = (some .int)) (hne : ∀ x ∈ c.exceptionTable.toList, False) (hfl : l.stackTraces = false) {h0 h1 h2 h3 h4 h5 h6 h7 h8 h9 a1 a2 a3 a4 b1 b2 b3 b4 : Nat} (v1 : TBv) (v2 : Fn) (v4 : TBv) (v5 : Fn) (v6 : SCv) {q : (Int32 × TBv × Fn × SCv) ⊕ (Nat × TBv × Fn × SCv)} (hf : f_X7_runScript_b10 v1 v2 v4 v5 v6 = some q) : GW p l e rmX7_runScript s m args below meth c A D 5 0 0 (vx_MQ below (xmQ D cy A (Sum.elim (fun q => Sum.inl ((some (.int q.1)), [FP h0 h1 h2 h3 h4 h5 h6 h7 h8 h9, TB cy h2 a1 a2 a3 v1, SU cy a2 a4 v2, TB cy h3 b1 b2 b3 q.2.1, SU cy b2 b4 q.2.2.1, SC b3 q.2.2.2])) (fun q => Sum.inr (q.1, [FP h0 h1 h2 h3 h4 h5 h6 h7 h8 h9, TB cy h2 a1 a2 a3 v1, SU cy a2 a4 v2, TB cy h3 b1 b2 b3 q.2.1, SU cy b2 b4 q.2.2.1, SC b3 q.2.2.2])) q : xRes)) (xmX D cy A (Sum.elim (fun q => Sum.inl ((some (.int q.1)), [FP h0 h1 h2 h3 h4 h5 h6 h7 h8 h9, TB cy h2 a1 a2 a3 v1, SU cy a2 a4 v2, TB cy h3 b1 b2 b3 q.2.1, SU cy b2 b4 q.2.2.1, SC b3 q.2.2.2])) (fun q => Sum.inr (q.1, [FP h0 h1 h2 h3 h4 h5 h6 h7 h8 h9, TB cy h2 a1 a2 a3 v1, SU cy a2 a4 v2, TB cy h3 b1 b2 b3 q.2.1, SU cy b2 b4 q.2.2.1, SC b3 q.2.2.2])) q : xRes)) args s 1 6 A) 10 [] [] [FP h0 h1 h2 h3 h4 h5 h6 h7 h8 h9, TB cy h2 a1 a2 a3 v1, SU cy a2 a4 v2, TB cy h3 b1 b2 b3 v4, SU cy b2 b4 v5, SC b3 v6] := by
  unfold f_X7_runScript_b10 at hf
  have hf := Option.some.inj hf
  subst hf
  exact g_throwSW X hne hfl 1 23 (by decide) rfl rfl dX7_runScript_10 dX7_runScript_13 dX7_runScript_14 dX7_runScript_17 dX7_runScript_20 xw_1 ⟨(Nat.le_of_ble_eq_true rfl), (Nat.le_of_ble_eq_true rfl), (Nat.le_of_ble_eq_true rfl), (Nat.le_of_ble_eq_true rfl)⟩ ⟨(Nat.le_of_ble_eq_true rfl), (Nat.le_of_ble_eq_true rfl)⟩
def f_X7_runScript_b37 (v1 : TBv) (v2 : Fn) (v4 : TBv) (v5 : Fn) (v6 : SCv) : Option ((Int32 × TBv × Fn × SCv) ⊕ (Nat × TBv × Fn × SCv)) :=
  some (.inr (1, v4, v5, v6))
set_option maxRecDepth 100000 in
set_option maxHeartbeats 4000000 in
theorem j_X7_runScript_b37 {p : Program} {l : Launch} {e : Env} {s : State} {m : MethodId} {args : Array Value} {below : List Frame} {meth : Method} {c : Code} {A : Nat → Prop} {D : va_G} {cy : Nat → ClassId} {ad : (Nat → Nat) × (Nat → Nat)} (X : gK p s m args meth c A D cy ad cX7_runScript 5 RX7) (hr : meth.sig.returnType = (some .int)) (hne : ∀ x ∈ c.exceptionTable.toList, False) (hfl : l.stackTraces = false) {h0 h1 h2 h3 h4 h5 h6 h7 h8 h9 a1 a2 a3 a4 b1 b2 b3 b4 : Nat} (v1 : TBv) (v2 : Fn) (v4 : TBv) (v5 : Fn) (v6 : SCv) {q : (Int32 × TBv × Fn × SCv) ⊕ (Nat × TBv × Fn × SCv)} (hf : f_X7_runScript_b37 v1 v2 v4 v5 v6 = some q) : GW p l e rmX7_runScript s m args below meth c A D 5 0 0 (vx_MQ below (xmQ D cy A (Sum.elim (fun q => Sum.inl ((some (.int q.1)), [FP h0 h1 h2 h3 h4 h5 h6 h7 h8 h9, TB cy h2 a1 a2 a3 v1, SU cy a2 a4 v2, TB cy h3 b1 b2 b3 q.2.1, SU cy b2 b4 q.2.2.1, SC b3 q.2.2.2])) (fun q => Sum.inr (q.1, [FP h0 h1 h2 h3 h4 h5 h6 h7 h8 h9, TB cy h2 a1 a2 a3 v1, SU cy a2 a4 v2, TB cy h3 b1 b2 b3 q.2.1, SU cy b2 b4 q.2.2.1, SC b3 q.2.2.2])) q : xRes)) (xmX D cy A (Sum.elim (fun q => Sum.inl ((some (.int q.1)), [FP h0 h1 h2 h3 h4 h5 h6 h7 h8 h9, TB cy h2 a1 a2 a3 v1, SU cy a2 a4 v2, TB cy h3 b1 b2 b3 q.2.1, SU cy b2 b4 q.2.2.1, SC b3 q.2.2.2])) (fun q => Sum.inr (q.1, [FP h0 h1 h2 h3 h4 h5 h6 h7 h8 h9, TB cy h2 a1 a2 a3 v1, SU cy a2 a4 v2, TB cy h3 b1 b2 b3 q.2.1, SU cy b2 b4 q.2.2.1, SC b3 q.2.2.2])) q : xRes)) args s 1 6 A) 37 [] [] [FP h0 h1 h2 h3 h4 h5 h6 h7 h8 h9, TB cy h2 a1 a2 a3 v1, SU cy a2 a4 v2, TB cy h3 b1 b2 b3 v4, SU cy b2 b4 v5, SC b3 v6] := by
  unfold f_X7_runScript_b37 at hf
  have hf := Option.some.inj hf
  subst hf
  exact g_throwSW X hne hfl 1 24 (by decide) rfl rfl dX7_runScript_37 dX7_runScript_40 dX7_runScript_41 dX7_runScript_44 dX7_runScript_47 xw_1 ⟨(Nat.le_of_ble_eq_true rfl), (Nat.le_of_ble_eq_true rfl), (Nat.le_of_ble_eq_true rfl), (Nat.le_of_ble_eq_true rfl)⟩ ⟨(Nat.le_of_ble_eq_true rfl), (Nat.le_of_ble_eq_true rfl)⟩
def f_X7_runScript_B62 (v1 : TBv) (v2 : Fn) (x1 : Int32) (x2 : Int64) (z : Int32 × TBv × Fn × SCv) : Option ((Int32 × TBv × Fn × SCv) ⊕ ((Int32 × TBv × Fn × SCv) ⊕ (TBv × Fn × SCv))) :=
  if x1 ≤ z.1 then some (.inr (.inr (z.2.1, z.2.2.1, z.2.2.2))) else (f_X7_withoutGroups x2 ((x1 - (1 : Int32)) - z.1)).bind (fun q752 => (f_X7_obeyGroup z.2.1 z.2.2.1 z.2.2.2 ((q752 - q752 / (100000 : Int64) * (100000 : Int64)).toInt32)).bind (fun q753 => if (b2i q753.1) = 0 then some (.inr (.inl (z.1, q753.2.1, q753.2.2.1, q753.2.2.2))) else some (.inl ((z.1 + (1 : Int32)), q753.2.1, q753.2.2.1, q753.2.2.2))))
set_option maxRecDepth 100000 in
set_option maxHeartbeats 4000000 in
theorem b_X7_runScript_B62 {p : Program} {l : Launch} {e : Env} {s : State} {m : MethodId} {args : Array Value} {below : List Frame} {meth : Method} {c : Code} {A : Nat → Prop} {D : va_G} {cy : Nat → ClassId} {ad : (Nat → Nat) × (Nat → Nat)} {Q : State → Prop} (X : gK p s m args meth c A D cy ad cX7_runScript 5 RX7) (hr : meth.sig.returnType = (some .int)) (hne : ∀ x ∈ c.exceptionTable.toList, False) (hfl : l.stackTraces = false) {h0 h1 h2 h3 h4 h5 h6 h7 h8 h9 a1 a2 a3 a4 b1 b2 b3 b4 : Nat} (v1 : TBv) (v2 : Fn) (x1 : Int32) (x2 : Int64) (z : Int32 × TBv × Fn × SCv) {q : (Int32 × TBv × Fn × SCv) ⊕ ((Int32 × TBv × Fn × SCv) ⊕ (TBv × Fn × SCv))} (hf : f_X7_runScript_B62 v1 v2 x1 x2 z = some q) (K1 : ∀ s' : Int32 × TBv × Fn × SCv, q = .inl s' → GW p l e rmX7_runScript s m args below meth c A D 5 0 0 Q 62 [(0, .ref h0), (1, .int x1), (2, .long x2), (4, .int s'.1)] [] [FP h0 h1 h2 h3 h4 h5 h6 h7 h8 h9, TB cy h2 a1 a2 a3 v1, SU cy a2 a4 v2, TB cy h3 b1 b2 b3 (s'.2.1.1, s'.2.1.2.1, s'.2.1.2.2.1, s'.2.1.2.2.2.1, s'.2.1.2.2.2.2.1, s'.2.1.2.2.2.2.2.1, s'.2.1.2.2.2.2.2.2.1, s'.2.1.2.2.2.2.2.2.2), SU cy b2 b4 s'.2.2.1, SC b3 (s'.2.2.2.1, s'.2.2.2.2.1, s'.2.2.2.2.2.1, s'.2.2.2.2.2.2.1, s'.2.2.2.2.2.2.2.1, s'.2.2.2.2.2.2.2.2)]) (K2 : ∀ e' : Int32 × TBv × Fn × SCv, q = .inr (.inl e') → GW p l e rmX7_runScript s m args below meth c A D 5 0 0 Q 90 [(4, .int e'.1)] [] [FP h0 h1 h2 h3 h4 h5 h6 h7 h8 h9, TB cy h2 a1 a2 a3 v1, SU cy a2 a4 v2, TB cy h3 b1 b2 b3 (e'.2.1.1, e'.2.1.2.1, e'.2.1.2.2.1, e'.2.1.2.2.2.1, e'.2.1.2.2.2.2.1, e'.2.1.2.2.2.2.2.1, e'.2.1.2.2.2.2.2.2.1, e'.2.1.2.2.2.2.2.2.2), SU cy b2 b4 e'.2.2.1, SC b3 (e'.2.2.2.1, e'.2.2.2.2.1, e'.2.2.2.2.2.1, e'.2.2.2.2.2.2.1, e'.2.2.2.2.2.2.2.1, e'.2.2.2.2.2.2.2.2)]) (K3 : ∀ e' : TBv × Fn × SCv, q = .inr (.inr e') → GW p l e rmX7_runScript s m args below meth c A D 5 0 0 Q 99 [] [] [FP h0 h1 h2 h3 h4 h5 h6 h7 h8 h9, TB cy h2 a1 a2 a3 v1, SU cy a2 a4 v2, TB cy h3 b1 b2 b3 (e'.1.1, e'.1.2.1, e'.1.2.2.1, e'.1.2.2.2.1, e'.1.2.2.2.2.1, e'.1.2.2.2.2.2.1, e'.1.2.2.2.2.2.2.1, e'.1.2.2.2.2.2.2.2), SU cy b2 b4 e'.2.1, SC b3 (e'.2.2.1, e'.2.2.2.1, e'.2.2.2.2.1, e'.2.2.2.2.2.1, e'.2.2.2.2.2.2.1, e'.2.2.2.2.2.2.2)]) : GW p l e rmX7_runScript s m args below meth c A D 5 0 0 Q 62 [(0, .ref h0), (1, .int x1), (2, .long x2), (4, .int z.1)] [] [FP h0 h1 h2 h3 h4 h5 h6 h7 h8 h9, TB cy h2 a1 a2 a3 v1, SU cy a2 a4 v2, TB cy h3 b1 b2 b3 z.2.1, SU cy b2 b4 z.2.2.1, SC b3 z.2.2.2] := by
  unfold f_X7_runScript_B62 at hf
  refine g_iload X dX7_runScript_62 3 rfl ?_
  refine g_iload_n X dX7_runScript_64 1 rfl rfl ?_
  refine g_icmp_ge X 99 dX7_runScript_65 (by decide) (fun c755 => ?_) (fun c755 => ?_)
  · have hf := opos c755 hf
    refine g_sub [] (lv' := []) rfl ?_
    exact K3 (z.2.1, z.2.2.1, z.2.2.2) (Option.some.inj hf).symm
  · have hf := oneg c755 hf
    refine g_aload_n X dX7_runScript_68 0 rfl rfl ?_
    refine g_lload_n X dX7_runScript_69 2 rfl rfl ?_
    refine g_iload_n X dX7_runScript_70 1 rfl rfl ?_
    refine g_iconst X (1 : Int32) dX7_runScript_71 (by decide) ?_
    refine g_isub X dX7_runScript_72 ?_
    refine g_iload X dX7_runScript_73 3 rfl ?_
    refine g_isub X dX7_runScript_75 ?_
    obtain ⟨q752, hq752, hf⟩ := obind hf
    refine g_callS (gs' := [FP h0 h1 h2 h3 h4 h5 h6 h7 h8 h9, TB cy h2 a1 a2 a3 v1, SU cy a2 a4 v2, TB cy h3 b1 b2 b3 z.2.1, SU cy b2 b4 z.2.2.1, SC b3 z.2.2.2]) (rest := [.ref h0]) X dX7_runScript_76 (c_X7_withoutGroups l D cy ad x2 ((x1 - (1 : Int32)) - z.1) hq752) mf_X7_withoutGroups ms_X7_withoutGroups lkm_X7_284 ⟨(Nat.le_of_ble_eq_true rfl), (Nat.le_of_ble_eq_true rfl), (Nat.le_of_ble_eq_true rfl), (Nat.le_of_ble_eq_true rfl)⟩ [0, 1, 2, 3, 4, 5] _ (by decide : [0, 1, 2, 3, 4, 5].Perm (List.range 6)) rfl (by decide : [0, 1, 2, 3, 4, 5].Perm (List.range 6)) rfl (Nat.le_of_ble_eq_true rfl) rfl ?_
    refine g_ldc2 X lkl_X7_293 dX7_runScript_79 ?_
    refine g_lrem X dX7_runScript_82 (by decide) ?_
    refine g_l2i X dX7_runScript_83 ?_
    obtain ⟨q753, hq753, hf⟩ := obind hf
    refine g_callV (gs' := [FP h0 h1 h2 h3 h4 h5 h6 h7 h8 h9, TB cy h2 a1 a2 a3 v1, SU cy a2 a4 v2, TB cy h3 b1 b2 b3 q753.2.1, SU cy b2 b4 q753.2.2.1, SC b3 q753.2.2.2]) (rest := []) X dX7_runScript_84 (c_X7_obeyGroup l D cy ad h0 h1 h2 h3 h4 h5 h6 h7 h8 h9 b1 b2 b3 b4 z.2.1 z.2.2.1 z.2.2.2 ((q752 - q752 / (100000 : Int64) * (100000 : Int64)).toInt32) hq753) mf_X7_obeyGroup mv_X7_obeyGroup lkm_X7_295 ⟨(Nat.le_of_ble_eq_true rfl), (Nat.le_of_ble_eq_true rfl), (Nat.le_of_ble_eq_true rfl), (Nat.le_of_ble_eq_true rfl)⟩ 0 0 rfl rfl rfl rfl [0, 3, 4, 5, 1, 2] _ (by decide : [0, 3, 4, 5, 1, 2].Perm (List.range 6)) rfl (by decide : [0, 3, 4, 5, 1, 2].Perm (List.range 6)) rfl (Nat.le_of_ble_eq_true rfl) rfl ?_
    refine g_if_ne X 93 dX7_runScript_87 (by decide) (fun c754 => ?_) (fun c754 => ?_)
    · have hf := oneg c754 hf
      refine g_iinc (lv' := [(0, .ref h0), (1, .int x1), (2, .long x2), (4, .int (z.1 + (1 : Int32)))]) (v := (1 : Int32)) X dX7_runScript_93 3 rfl (by decide) [1, 2, 3, 0] (Nat.le_of_ble_eq_true rfl) rfl ?_
      refine g_goto X 62 dX7_runScript_96 (by decide) ?_
      exact K1 ((z.1 + (1 : Int32)), q753.2.1, q753.2.2.1, q753.2.2.2) (Option.some.inj hf).symm
    · have hf := opos c754 hf
      refine g_sub [3] (lv' := [(4, .int z.1)]) rfl ?_
      exact K2 (z.1, q753.2.1, q753.2.2.1, q753.2.2.2) (Option.some.inj hf).symm
set_option maxRecDepth 100000 in
set_option maxHeartbeats 4000000 in
theorem w_X7_runScript_B62 {p : Program} {l : Launch} {e : Env} {s : State} {m : MethodId} {args : Array Value} {below : List Frame} {meth : Method} {c : Code} {A : Nat → Prop} {D : va_G} {cy : Nat → ClassId} {ad : (Nat → Nat) × (Nat → Nat)} {Q : State → Prop} (X : gK p s m args meth c A D cy ad cX7_runScript 5 RX7) (hr : meth.sig.returnType = (some .int)) (hne : ∀ x ∈ c.exceptionTable.toList, False) (hfl : l.stackTraces = false) {h0 h1 h2 h3 h4 h5 h6 h7 h8 h9 a1 a2 a3 a4 b1 b2 b3 b4 : Nat} (v1 : TBv) (v2 : Fn) (x1 : Int32) (x2 : Int64) {n : Nat} {z : Int32 × TBv × Fn × SCv} {q : (Int32 × TBv × Fn × SCv) ⊕ (TBv × Fn × SCv)} (hf : itl (f_X7_runScript_B62 v1 v2 x1 x2) n z = some q) (K2 : ∀ e' : Int32 × TBv × Fn × SCv, q = .inl e' → GW p l e rmX7_runScript s m args below meth c A D 5 0 0 Q 90 [(4, .int e'.1)] [] [FP h0 h1 h2 h3 h4 h5 h6 h7 h8 h9, TB cy h2 a1 a2 a3 v1, SU cy a2 a4 v2, TB cy h3 b1 b2 b3 (e'.2.1.1, e'.2.1.2.1, e'.2.1.2.2.1, e'.2.1.2.2.2.1, e'.2.1.2.2.2.2.1, e'.2.1.2.2.2.2.2.1, e'.2.1.2.2.2.2.2.2.1, e'.2.1.2.2.2.2.2.2.2), SU cy b2 b4 e'.2.2.1, SC b3 (e'.2.2.2.1, e'.2.2.2.2.1, e'.2.2.2.2.2.1, e'.2.2.2.2.2.2.1, e'.2.2.2.2.2.2.2.1, e'.2.2.2.2.2.2.2.2)]) (K3 : ∀ e' : TBv × Fn × SCv, q = .inr e' → GW p l e rmX7_runScript s m args below meth c A D 5 0 0 Q 99 [] [] [FP h0 h1 h2 h3 h4 h5 h6 h7 h8 h9, TB cy h2 a1 a2 a3 v1, SU cy a2 a4 v2, TB cy h3 b1 b2 b3 (e'.1.1, e'.1.2.1, e'.1.2.2.1, e'.1.2.2.2.1, e'.1.2.2.2.2.1, e'.1.2.2.2.2.2.1, e'.1.2.2.2.2.2.2.1, e'.1.2.2.2.2.2.2.2), SU cy b2 b4 e'.2.1, SC b3 (e'.2.2.1, e'.2.2.2.1, e'.2.2.2.2.1, e'.2.2.2.2.2.1, e'.2.2.2.2.2.2.1, e'.2.2.2.2.2.2.2)]) : GW p l e rmX7_runScript s m args below meth c A D 5 0 0 Q 62 [(0, .ref h0), (1, .int x1), (2, .long x2), (4, .int z.1)] [] [FP h0 h1 h2 h3 h4 h5 h6 h7 h8 h9, TB cy h2 a1 a2 a3 v1, SU cy a2 a4 v2, TB cy h3 b1 b2 b3 z.2.1, SU cy b2 b4 z.2.2.1, SC b3 z.2.2.2] :=
  itl_ind (f := f_X7_runScript_B62 v1 v2 x1 x2) (I := fun z => GW p l e rmX7_runScript s m args below meth c A D 5 0 0 Q 62 [(0, .ref h0), (1, .int x1), (2, .long x2), (4, .int z.1)] [] [FP h0 h1 h2 h3 h4 h5 h6 h7 h8 h9, TB cy h2 a1 a2 a3 v1, SU cy a2 a4 v2, TB cy h3 b1 b2 b3 z.2.1, SU cy b2 b4 z.2.2.1, SC b3 z.2.2.2]) (J := (fun q => (∀ e' : Int32 × TBv × Fn × SCv, q = .inl e' → GW p l e rmX7_runScript s m args below meth c A D 5 0 0 Q 90 [(4, .int e'.1)] [] [FP h0 h1 h2 h3 h4 h5 h6 h7 h8 h9, TB cy h2 a1 a2 a3 v1, SU cy a2 a4 v2, TB cy h3 b1 b2 b3 (e'.2.1.1, e'.2.1.2.1, e'.2.1.2.2.1, e'.2.1.2.2.2.1, e'.2.1.2.2.2.2.1, e'.2.1.2.2.2.2.2.1, e'.2.1.2.2.2.2.2.2.1, e'.2.1.2.2.2.2.2.2.2), SU cy b2 b4 e'.2.2.1, SC b3 (e'.2.2.2.1, e'.2.2.2.2.1, e'.2.2.2.2.2.1, e'.2.2.2.2.2.2.1, e'.2.2.2.2.2.2.2.1, e'.2.2.2.2.2.2.2.2)]) ∧ (∀ e' : TBv × Fn × SCv, q = .inr e' → GW p l e rmX7_runScript s m args below meth c A D 5 0 0 Q 99 [] [] [FP h0 h1 h2 h3 h4 h5 h6 h7 h8 h9, TB cy h2 a1 a2 a3 v1, SU cy a2 a4 v2, TB cy h3 b1 b2 b3 (e'.1.1, e'.1.2.1, e'.1.2.2.1, e'.1.2.2.2.1, e'.1.2.2.2.2.1, e'.1.2.2.2.2.2.1, e'.1.2.2.2.2.2.2.1, e'.1.2.2.2.2.2.2.2), SU cy b2 b4 e'.2.1, SC b3 (e'.2.2.1, e'.2.2.2.1, e'.2.2.2.2.1, e'.2.2.2.2.2.1, e'.2.2.2.2.2.2.1, e'.2.2.2.2.2.2.2)]))) (fun z x h k1 k2 => b_X7_runScript_B62 X hr hne hfl v1 v2 x1 x2 z h (fun s' hs => k1 s' hs) (fun e' he => (k2 _ he).1 e' rfl) (fun e' he => (k2 _ he).2 e' rfl)) n z q hf ⟨K2, K3⟩
def f_X7_runScript (v1 : TBv) (v2 : Fn) (v4 : TBv) (v5 : Fn) (v6 : SCv) (p1 : Int32) (p2 : Int64) : Option ((Int32 × TBv × Fn × SCv) ⊕ (Nat × TBv × Fn × SCv)) :=
  if p1 < (1 : Int32) then f_X7_runScript_b10 v1 v2 v4 v5 v6 else if p1 ≤ (3 : Int32) then if (lg_cmp p2 (0 : Int64)) < 0 then f_X7_runScript_b37 v1 v2 v4 v5 v6 else (f_X7_withoutGroups p2 p1).bind (fun q750 => if (lg_cmp q750 (0 : Int64)) = 0 then (f_X4_copyFrom v4 v5 v1 v2).bind (fun q751 => (itl (f_X7_runScript_B62 v1 v2 p1 p2) FU ((0 : Int32), q751.1, q751.2, v6)).bind (Sum.elim (fun q756e => some (.inl (q756e.1, q756e.2.1, q756e.2.2.1, q756e.2.2.2))) (fun q756e => some (.inl ((-1 : Int32), q756e.1, q756e.2.1, q756e.2.2))))) else f_X7_runScript_b37 v1 v2 v4 v5 v6) else f_X7_runScript_b10 v1 v2 v4 v5 v6
set_option maxRecDepth 100000 in
set_option maxHeartbeats 4000000 in
theorem c_X7_runScript (l : Launch) (D : va_G) (cy : Nat → ClassId) (ad : (Nat → Nat) × (Nat → Nat)) (h0 : Nat) (h1 : Nat) (h2 : Nat) (h3 : Nat) (h4 : Nat) (h5 : Nat) (h6 : Nat) (h7 : Nat) (h8 : Nat) (h9 : Nat) (a1 : Nat) (a2 : Nat) (a3 : Nat) (a4 : Nat) (b1 : Nat) (b2 : Nat) (b3 : Nat) (b4 : Nat) (v1 : TBv) (v2 : Fn) (v4 : TBv) (v5 : Fn) (v6 : SCv) (p1 : Int32) (p2 : Int64) (hfl : l.stackTraces = false) {q : (Int32 × TBv × Fn × SCv) ⊕ (Nat × TBv × Fn × SCv)} (hf : f_X7_runScript v1 v2 v4 v5 v6 p1 p2 = some q) : XM l yX7_runScript cX7_runScript 5 (some .int) rmX7_runScript D cy ad [.ref h0, .int p1, .long p2] [FP h0 h1 h2 h3 h4 h5 h6 h7 h8 h9, TB cy h2 a1 a2 a3 v1, SU cy a2 a4 v2, TB cy h3 b1 b2 b3 v4, SU cy b2 b4 v5, SC b3 v6] (Sum.elim (fun q => Sum.inl ((some (.int q.1)), [FP h0 h1 h2 h3 h4 h5 h6 h7 h8 h9, TB cy h2 a1 a2 a3 v1, SU cy a2 a4 v2, TB cy h3 b1 b2 b3 q.2.1, SU cy b2 b4 q.2.2.1, SC b3 q.2.2.2])) (fun q => Sum.inr (q.1, [FP h0 h1 h2 h3 h4 h5 h6 h7 h8 h9, TB cy h2 a1 a2 a3 v1, SU cy a2 a4 v2, TB cy h3 b1 b2 b3 q.2.1, SU cy b2 b4 q.2.2.1, SC b3 q.2.2.2])) q : xRes) := by
  refine xm_of (lv0 := [(0, .ref h0), (1, .int p1), (2, .long p2)]) (by decide) (Nat.le_of_ble_eq_true rfl) rfl ?_
  intro p e s m args below meth c A X hr hne
  have X : gK p s m args meth c A D cy ad cX7_runScript 5 RX7 := X
  unfold f_X7_runScript at hf
  refine g_iload_n X dX7_runScript_0 1 rfl rfl ?_
  refine g_iconst X (1 : Int32) dX7_runScript_1 (by decide) ?_
  refine g_icmp_lt X 10 dX7_runScript_2 (by decide) (fun c760 => ?_) (fun c760 => ?_)
  · have hf := opos c760 hf
    refine g_sub [] (lv' := []) rfl ?_
    exact j_X7_runScript_b10 X hr hne hfl v1 v2 v4 v5 v6 hf
  · have hf := oneg c760 hf
    refine g_iload_n X dX7_runScript_5 1 rfl rfl ?_
    refine g_iconst X (3 : Int32) dX7_runScript_6 (by decide) ?_
    refine g_icmp_le X 21 dX7_runScript_7 (by decide) (fun c759 => ?_) (fun c759 => ?_)
    · have hf := opos c759 hf
      refine g_lload_n X dX7_runScript_21 2 rfl rfl ?_
      refine g_lconst X (0 : Int64) dX7_runScript_22 (by decide) ?_
      refine g_lcmp X dX7_runScript_23 ?_
      refine g_if_lt X 37 dX7_runScript_24 (by decide) (fun c758 => ?_) (fun c758 => ?_)
      · have hf := opos c758 hf
        refine g_sub [] (lv' := []) rfl ?_
        exact j_X7_runScript_b37 X hr hne hfl v1 v2 v4 v5 v6 hf
      · have hf := oneg c758 hf
        refine g_lload_n X dX7_runScript_27 2 rfl rfl ?_
        refine g_iload_n X dX7_runScript_28 1 rfl rfl ?_
        obtain ⟨q750, hq750, hf⟩ := obind hf
        refine g_callS (gs' := [FP h0 h1 h2 h3 h4 h5 h6 h7 h8 h9, TB cy h2 a1 a2 a3 v1, SU cy a2 a4 v2, TB cy h3 b1 b2 b3 v4, SU cy b2 b4 v5, SC b3 v6]) (rest := []) X dX7_runScript_29 (c_X7_withoutGroups l D cy ad p2 p1 hq750) mf_X7_withoutGroups ms_X7_withoutGroups lkm_X7_284 ⟨(Nat.le_of_ble_eq_true rfl), (Nat.le_of_ble_eq_true rfl), (Nat.le_of_ble_eq_true rfl), (Nat.le_of_ble_eq_true rfl)⟩ [0, 1, 2, 3, 4, 5] _ (by decide : [0, 1, 2, 3, 4, 5].Perm (List.range 6)) rfl (by decide : [0, 1, 2, 3, 4, 5].Perm (List.range 6)) rfl (Nat.le_of_ble_eq_true rfl) rfl ?_
        refine g_lconst X (0 : Int64) dX7_runScript_32 (by decide) ?_
        refine g_lcmp X dX7_runScript_33 ?_
        refine g_if_eq X 48 dX7_runScript_34 (by decide) (fun c757 => ?_) (fun c757 => ?_)
        · have hf := opos c757 hf
          refine g_aload_n X dX7_runScript_48 0 rfl rfl ?_
          refine g_get X dX7_runScript_49 ck_X7 0 0 2 rfl rfl (Nat.le_of_ble_eq_true rfl) lkf_X7_23 rfl ?_
          refine g_aload_n X dX7_runScript_52 0 rfl rfl ?_
          refine g_get X dX7_runScript_53 ck_X7 0 0 1 rfl rfl (Nat.le_of_ble_eq_true rfl) lkf_X7_19 rfl ?_
          obtain ⟨q751, hq751, hf⟩ := obind hf
          refine g_callV (gs' := [FP h0 h1 h2 h3 h4 h5 h6 h7 h8 h9, TB cy h2 a1 a2 a3 v1, SU cy a2 a4 v2, TB cy h3 b1 b2 b3 q751.1, SU cy b2 b4 q751.2, SC b3 v6]) (rest := []) X dX7_runScript_56 (c_X4_copyFrom l D cy ad h3 b1 b2 b3 b4 h2 a1 a2 a3 a4 v4 v5 v1 v2 hq751) mf_X4_copyFrom mv_X4_copyFrom lkm_X7_290 ⟨(Nat.le_of_ble_eq_true rfl), (Nat.le_of_ble_eq_true rfl), (Nat.le_of_ble_eq_true rfl), (Nat.le_of_ble_eq_true rfl)⟩ 3 0 rfl rfl rfl rfl [3, 4, 1, 2, 0, 5] _ (by decide : [3, 4, 1, 2, 0, 5].Perm (List.range 6)) rfl (by decide : [3, 4, 1, 2, 0, 5].Perm (List.range 6)) rfl (Nat.le_of_ble_eq_true rfl) rfl ?_
          refine g_iconst X (0 : Int32) dX7_runScript_59 (by decide) ?_
          refine g_istore (lv' := [(0, .ref h0), (1, .int p1), (2, .long p2), (4, .int (0 : Int32))]) X dX7_runScript_60 [1, 2, 3, 0] (Nat.le_of_ble_eq_true rfl) rfl ?_
          obtain ⟨q756, hq756, hf⟩ := obind hf
          refine w_X7_runScript_B62 X hr hne hfl v1 v2 p1 p2 hq756 (fun q756e hq756e => ?_) (fun q756e hq756e => ?_)
          · subst hq756e
            have hf := sinl hf
            refine g_iload X dX7_runScript_90 0 rfl ?_
            have hf := Option.some.inj hf
            subst hf
            exact g_xret (Nat.le_of_ble_eq_true rfl) (Nat.le_of_ble_eq_true rfl) (g_iret X hr dX7_runScript_92)
          · subst hq756e
            have hf := sinr hf
            refine g_iconst X (-1 : Int32) dX7_runScript_99 (by decide) ?_
            have hf := Option.some.inj hf
            subst hf
            exact g_xret (Nat.le_of_ble_eq_true rfl) (Nat.le_of_ble_eq_true rfl) (g_iret X hr dX7_runScript_100)
        · have hf := oneg c757 hf
          refine g_sub [] (lv' := []) rfl ?_
          exact j_X7_runScript_b37 X hr hne hfl v1 v2 v4 v5 v6 hf
    · have hf := oneg c759 hf
      refine g_sub [] (lv' := []) rfl ?_
      exact j_X7_runScript_b10 X hr hne hfl v1 v2 v4 v5 v6 hf
abbrev rmX7_takeTurn : Room := ({ frames := 3, cells := 0, slots := 0, locals := 74 } : Room)
def f_X7_takeTurn_b177 (v4 : TBv) (v5 : Fn) (v6 : SCv) (x4 : Int32) (x5 : Int32) : Option (TBv × Fn × SCv) :=
  (f_X4_tryWeighing v4 v5 v6 x4 x5).bind (fun q773 => some (q773.2.1, q773.2.2.1, q773.2.2.2))
set_option maxRecDepth 100000 in
set_option maxHeartbeats 4000000 in
theorem j_X7_takeTurn_b177 {p : Program} {l : Launch} {e : Env} {s : State} {m : MethodId} {args : Array Value} {below : List Frame} {meth : Method} {c : Code} {A : Nat → Prop} {D : va_G} {cy : Nat → ClassId} {ad : (Nat → Nat) × (Nat → Nat)} (X : gK p s m args meth c A D cy ad cX7_takeTurn 6 RX7) (hr : meth.sig.returnType = none) {h0 h1 h2 h3 h4 h5 h6 h7 h8 h9 b1 b2 b3 b4 : Nat} (v4 : TBv) (v5 : Fn) (v6 : SCv) (x4 : Int32) (x5 : Int32) {q : TBv × Fn × SCv} (hf : f_X7_takeTurn_b177 v4 v5 v6 x4 x5 = some q) : GW p l e rmX7_takeTurn s m args below meth c A D 6 0 0 (MQ below (cmQ D cy A none ([FP h0 h1 h2 h3 h4 h5 h6 h7 h8 h9, TB cy h3 b1 b2 b3 q.1, SU cy b2 b4 q.2.1, SC b3 q.2.2] : List va_W).flatten) args s 0 0 A) 177 [(0, .ref h0), (4, .int x4), (5, .int x5)] [] [FP h0 h1 h2 h3 h4 h5 h6 h7 h8 h9, TB cy h3 b1 b2 b3 v4, SU cy b2 b4 v5, SC b3 v6] := by
  unfold f_X7_takeTurn_b177 at hf
  refine g_aload_n X dX7_takeTurn_177 0 rfl rfl ?_
  refine g_get X dX7_takeTurn_178 ck_X7 0 0 2 rfl rfl (Nat.le_of_ble_eq_true rfl) lkf_X7_23 rfl ?_
  refine g_iload X dX7_takeTurn_181 1 rfl ?_
  refine g_iload X dX7_takeTurn_183 2 rfl ?_
  obtain ⟨q773, hq773, hf⟩ := obind hf
  refine g_callV (gs' := [FP h0 h1 h2 h3 h4 h5 h6 h7 h8 h9, TB cy h3 b1 b2 b3 q773.2.1, SU cy b2 b4 q773.2.2.1, SC b3 q773.2.2.2]) (rest := []) X dX7_takeTurn_185 (c_X4_tryWeighing l D cy ad h3 b1 b2 b3 b4 v4 v5 v6 x4 x5 hq773) mf_X4_tryWeighing mv_X4_tryWeighing lkm_X7_142 ⟨(Nat.le_of_ble_eq_true rfl), (Nat.le_of_ble_eq_true rfl), (Nat.le_of_ble_eq_true rfl), (Nat.le_of_ble_eq_true rfl)⟩ 1 0 rfl rfl rfl rfl [1, 2, 3, 0] _ (by decide : [1, 2, 3, 0].Perm (List.range 4)) rfl (by decide : [1, 2, 3, 0].Perm (List.range 4)) rfl (Nat.le_of_ble_eq_true rfl) rfl ?_
  refine g_pop X dX7_takeTurn_188 rfl ?_
  have hf := Option.some.inj hf
  subst hf
  exact g_vret X hr dX7_takeTurn_189
def f_X7_takeTurn_b159 (v4 : TBv) (v5 : Fn) (v6 : SCv) (x2 : Int32) (x3 : Int32) (x4 : Int32) : Option (TBv × Fn × SCv) :=
  f_X7_takeTurn_b177 v4 v5 v6 x4 ((((x2 / (4096 : Int32)) - (x2 / (4096 : Int32)) / (4096 : Int32) * (4096 : Int32)) &&& x3) &&& (x4 ^^^ (-1 : Int32)))
set_option maxRecDepth 100000 in
set_option maxHeartbeats 4000000 in
theorem j_X7_takeTurn_b159 {p : Program} {l : Launch} {e : Env} {s : State} {m : MethodId} {args : Array Value} {below : List Frame} {meth : Method} {c : Code} {A : Nat → Prop} {D : va_G} {cy : Nat → ClassId} {ad : (Nat → Nat) × (Nat → Nat)} (X : gK p s m args meth c A D cy ad cX7_takeTurn 6 RX7) (hr : meth.sig.returnType = none) {h0 h1 h2 h3 h4 h5 h6 h7 h8 h9 b1 b2 b3 b4 : Nat} (v4 : TBv) (v5 : Fn) (v6 : SCv) (x2 : Int32) (x3 : Int32) (x4 : Int32) {q : TBv × Fn × SCv} (hf : f_X7_takeTurn_b159 v4 v5 v6 x2 x3 x4 = some q) : GW p l e rmX7_takeTurn s m args below meth c A D 6 0 0 (MQ below (cmQ D cy A none ([FP h0 h1 h2 h3 h4 h5 h6 h7 h8 h9, TB cy h3 b1 b2 b3 q.1, SU cy b2 b4 q.2.1, SC b3 q.2.2] : List va_W).flatten) args s 0 0 A) 159 [(0, .ref h0), (2, .int x2), (3, .int x3), (4, .int x4)] [] [FP h0 h1 h2 h3 h4 h5 h6 h7 h8 h9, TB cy h3 b1 b2 b3 v4, SU cy b2 b4 v5, SC b3 v6] := by
  unfold f_X7_takeTurn_b159 at hf
  refine g_iload_n X dX7_takeTurn_159 1 rfl rfl ?_
  refine g_sipush X (4096 : Int32) dX7_takeTurn_160 (by decide) ?_
  refine g_idiv X dX7_takeTurn_163 (by decide) ?_
  refine g_sipush X (4096 : Int32) dX7_takeTurn_164 (by decide) ?_
  refine g_irem X dX7_takeTurn_167 (by decide) ?_
  refine g_iload_n X dX7_takeTurn_168 2 rfl rfl ?_
  refine g_iand X dX7_takeTurn_169 ?_
  refine g_iload X dX7_takeTurn_170 3 rfl ?_
  refine g_iconst X (-1 : Int32) dX7_takeTurn_172 (by decide) ?_
  refine g_ixor X dX7_takeTurn_173 ?_
  refine g_iand X dX7_takeTurn_174 ?_
  refine g_istore (lv' := [(0, .ref h0), (2, .int x2), (3, .int x3), (4, .int x4), (5, .int ((((x2 / (4096 : Int32)) - (x2 / (4096 : Int32)) / (4096 : Int32) * (4096 : Int32)) &&& x3) &&& (x4 ^^^ (-1 : Int32))))]) X dX7_takeTurn_175 [1, 2, 3, 4, 0] (Nat.le_of_ble_eq_true rfl) rfl ?_
  refine g_sub [0, 3, 4] (lv' := [(0, .ref h0), (4, .int x4), (5, .int ((((x2 / (4096 : Int32)) - (x2 / (4096 : Int32)) / (4096 : Int32) * (4096 : Int32)) &&& x3) &&& (x4 ^^^ (-1 : Int32))))]) rfl ?_
  exact j_X7_takeTurn_b177 X hr v4 v5 v6 x4 ((((x2 / (4096 : Int32)) - (x2 / (4096 : Int32)) / (4096 : Int32) * (4096 : Int32)) &&& x3) &&& (x4 ^^^ (-1 : Int32))) hf
def f_X7_takeTurn_b131 (v4 : TBv) (v5 : Fn) (v6 : SCv) (y0 : Bool) (y1 : Int32) : Option (TBv × Fn × SCv) :=
  (f_X4_blameCoin v4 y1 y0).bind (fun q778 => some (q778.2, v5, v6))
set_option maxRecDepth 100000 in
set_option maxHeartbeats 4000000 in
theorem j_X7_takeTurn_b131 {p : Program} {l : Launch} {e : Env} {s : State} {m : MethodId} {args : Array Value} {below : List Frame} {meth : Method} {c : Code} {A : Nat → Prop} {D : va_G} {cy : Nat → ClassId} {ad : (Nat → Nat) × (Nat → Nat)} (X : gK p s m args meth c A D cy ad cX7_takeTurn 6 RX7) (hr : meth.sig.returnType = none) {h0 h1 h2 h3 h4 h5 h6 h7 h8 h9 b1 b2 b3 b4 : Nat} (v4 : TBv) (v5 : Fn) (v6 : SCv) (y0 : Bool) (y1 : Int32) {q : TBv × Fn × SCv} (hf : f_X7_takeTurn_b131 v4 v5 v6 y0 y1 = some q) : GW p l e rmX7_takeTurn s m args below meth c A D 6 0 0 (MQ below (cmQ D cy A none ([FP h0 h1 h2 h3 h4 h5 h6 h7 h8 h9, TB cy h3 b1 b2 b3 q.1, SU cy b2 b4 q.2.1, SC b3 q.2.2] : List va_W).flatten) args s 0 0 A) 131 [] [.int (b2i y0), .int y1, .ref h3] [FP h0 h1 h2 h3 h4 h5 h6 h7 h8 h9, TB cy h3 b1 b2 b3 v4, SU cy b2 b4 v5, SC b3 v6] := by
  unfold f_X7_takeTurn_b131 at hf
  obtain ⟨q778, hq778, hf⟩ := obind hf
  refine g_callV (gs' := [FP h0 h1 h2 h3 h4 h5 h6 h7 h8 h9, TB cy h3 b1 b2 b3 q778.2, SU cy b2 b4 v5, SC b3 v6]) (rest := []) X dX7_takeTurn_131 (c_X4_blameCoin l D cy ad h3 b1 b2 b3 v4 y1 y0 hq778) mf_X4_blameCoin mv_X4_blameCoin lkm_X7_232 ⟨(Nat.le_of_ble_eq_true rfl), (Nat.le_of_ble_eq_true rfl), (Nat.le_of_ble_eq_true rfl), (Nat.le_of_ble_eq_true rfl)⟩ 1 0 rfl rfl rfl rfl [1, 0, 2, 3] _ (by decide : [1, 0, 2, 3].Perm (List.range 4)) rfl (by decide : [1, 0, 2, 3].Perm (List.range 4)) rfl (Nat.le_of_ble_eq_true rfl) rfl ?_
  refine g_pop X dX7_takeTurn_134 rfl ?_
  refine g_goto X 189 dX7_takeTurn_135 (by decide) ?_
  have hf := Option.some.inj hf
  subst hf
  exact g_vret X hr dX7_takeTurn_189
def f_X7_takeTurn (v4 : TBv) (v5 : Fn) (v6 : SCv) (p1 : Int32) : Option (TBv × Fn × SCv) :=
  if (p1 - p1 / (8 : Int32) * (8 : Int32)) = (0 : Int32) then if ((p1 / (8 : Int32)) - (p1 / (8 : Int32)) / (3 : Int32) * (3 : Int32)) = 0 then (f_X4_tryArms v4 ((1 : Int32) + ((p1 / (8 : Int32)) - (p1 / (8 : Int32)) / (20 : Int32) * (20 : Int32))) ((1 : Int32) + (((p1 / (8 : Int32)) / (32 : Int32)) - ((p1 / (8 : Int32)) / (32 : Int32)) / (20 : Int32) * (20 : Int32)))).bind (fun q783 => some (q783.2, v5, v6)) else (f_X4_tryArms v4 (10 : Int32) (10 : Int32)).bind (fun q782 => some (q782.2, v5, v6)) else if (p1 - p1 / (8 : Int32) * (8 : Int32)) = (1 : Int32) then (f_X4_tryForgetting v4 v5 v6).bind (fun q781 => some (q781.2.1, q781.2.2.1, q781.2.2.2)) else if (p1 - p1 / (8 : Int32) * (8 : Int32)) = (2 : Int32) then (f_X4_hasCoin v4 ((p1 / (8 : Int32)) - (p1 / (8 : Int32)) / (12 : Int32) * (12 : Int32))).bind (fun q777 => if (b2i q777) = 0 then some (v4, v5, v6) else if (((p1 / (8 : Int32)) / (16 : Int32)) - ((p1 / (8 : Int32)) / (16 : Int32)) / (2 : Int32) * (2 : Int32)) = (1 : Int32) then f_X7_takeTurn_b131 v4 v5 v6 true ((p1 / (8 : Int32)) - (p1 / (8 : Int32)) / (12 : Int32) * (12 : Int32)) else f_X7_takeTurn_b131 v4 v5 v6 false ((p1 / (8 : Int32)) - (p1 / (8 : Int32)) / (12 : Int32) * (12 : Int32))) else f_X7_takeTurn_b159 v4 v5 v6 (p1 / (8 : Int32)) (((1 : Int32) <<< (v4.1 &&& 31)) - (1 : Int32)) (((p1 / (8 : Int32)) - (p1 / (8 : Int32)) / (4096 : Int32) * (4096 : Int32)) &&& (((1 : Int32) <<< (v4.1 &&& 31)) - (1 : Int32)))
set_option maxRecDepth 100000 in
set_option maxHeartbeats 4000000 in
theorem c_X7_takeTurn (l : Launch) (D : va_G) (cy : Nat → ClassId) (ad : (Nat → Nat) × (Nat → Nat)) (h0 : Nat) (h1 : Nat) (h2 : Nat) (h3 : Nat) (h4 : Nat) (h5 : Nat) (h6 : Nat) (h7 : Nat) (h8 : Nat) (h9 : Nat) (b1 : Nat) (b2 : Nat) (b3 : Nat) (b4 : Nat) (v4 : TBv) (v5 : Fn) (v6 : SCv) (p1 : Int32) {q : TBv × Fn × SCv} (hf : f_X7_takeTurn v4 v5 v6 p1 = some q) : CM l yX7_takeTurn cX7_takeTurn 6 none rmX7_takeTurn D cy ad [.ref h0, .int p1] [FP h0 h1 h2 h3 h4 h5 h6 h7 h8 h9, TB cy h3 b1 b2 b3 v4, SU cy b2 b4 v5, SC b3 v6] none [FP h0 h1 h2 h3 h4 h5 h6 h7 h8 h9, TB cy h3 b1 b2 b3 q.1, SU cy b2 b4 q.2.1, SC b3 q.2.2] := by
  refine cm_of (lv0 := [(0, .ref h0), (1, .int p1)]) (by decide) (Nat.le_of_ble_eq_true rfl) rfl ?_
  intro p e s m args below meth c A X hr hn
  have X : gK p s m args meth c A D cy ad cX7_takeTurn 6 RX7 := X
  unfold f_X7_takeTurn at hf
  refine g_iload_n X dX7_takeTurn_0 1 rfl rfl ?_
  refine g_bipush X (8 : Int32) dX7_takeTurn_1 (by decide) ?_
  refine g_idiv X dX7_takeTurn_3 (by decide) ?_
  refine g_istore_n (lv' := [(0, .ref h0), (1, .int p1), (2, .int (p1 / (8 : Int32)))]) X dX7_takeTurn_4 [1, 2, 0] rfl (Nat.le_of_ble_eq_true rfl) rfl ?_
  refine g_iload_n X dX7_takeTurn_5 1 rfl rfl ?_
  refine g_bipush X (8 : Int32) dX7_takeTurn_6 (by decide) ?_
  refine g_irem X dX7_takeTurn_8 (by decide) ?_
  by_cases c774 : (p1 - p1 / (8 : Int32) * (8 : Int32)) = (0 : Int32)
  · have hf := opos c774 hf
    refine g_tableIn (off := 27) X 36 dX7_takeTurn_9 (by rw [c774]; decide) (by rw [c774]; decide) (by rw [c774]; decide) (by decide) ?_
    refine g_iload_n X dX7_takeTurn_36 2 rfl rfl ?_
    refine g_iconst X (3 : Int32) dX7_takeTurn_37 (by decide) ?_
    refine g_irem X dX7_takeTurn_38 (by decide) ?_
    refine g_if_ne X 68 dX7_takeTurn_39 (by decide) (fun c784 => ?_) (fun c784 => ?_)
    · have hf := oneg c784 hf
      refine g_aload_n X dX7_takeTurn_68 0 rfl rfl ?_
      refine g_get X dX7_takeTurn_69 ck_X7 0 0 2 rfl rfl (Nat.le_of_ble_eq_true rfl) lkf_X7_23 rfl ?_
      refine g_bipush X (10 : Int32) dX7_takeTurn_72 (by decide) ?_
      refine g_bipush X (10 : Int32) dX7_takeTurn_74 (by decide) ?_
      obtain ⟨q782, hq782, hf⟩ := obind hf
      refine g_callV (gs' := [FP h0 h1 h2 h3 h4 h5 h6 h7 h8 h9, TB cy h3 b1 b2 b3 q782.2, SU cy b2 b4 v5, SC b3 v6]) (rest := []) X dX7_takeTurn_76 (c_X4_tryArms l D cy ad h3 b1 b2 b3 v4 (10 : Int32) (10 : Int32) hq782) mf_X4_tryArms mv_X4_tryArms lkm_X7_138 ⟨(Nat.le_of_ble_eq_true rfl), (Nat.le_of_ble_eq_true rfl), (Nat.le_of_ble_eq_true rfl), (Nat.le_of_ble_eq_true rfl)⟩ 1 0 rfl rfl rfl rfl [1, 0, 2, 3] _ (by decide : [1, 0, 2, 3].Perm (List.range 4)) rfl (by decide : [1, 0, 2, 3].Perm (List.range 4)) rfl (Nat.le_of_ble_eq_true rfl) rfl ?_
      refine g_pop X dX7_takeTurn_79 rfl ?_
      refine g_goto X 189 dX7_takeTurn_80 (by decide) ?_
      have hf := Option.some.inj hf
      subst hf
      exact g_vret X hr dX7_takeTurn_189
    · have hf := opos c784 hf
      refine g_aload_n X dX7_takeTurn_42 0 rfl rfl ?_
      refine g_get X dX7_takeTurn_43 ck_X7 0 0 2 rfl rfl (Nat.le_of_ble_eq_true rfl) lkf_X7_23 rfl ?_
      refine g_iconst X (1 : Int32) dX7_takeTurn_46 (by decide) ?_
      refine g_iload_n X dX7_takeTurn_47 2 rfl rfl ?_
      refine g_bipush X (20 : Int32) dX7_takeTurn_48 (by decide) ?_
      refine g_irem X dX7_takeTurn_50 (by decide) ?_
      refine g_iadd X dX7_takeTurn_51 ?_
      refine g_iconst X (1 : Int32) dX7_takeTurn_52 (by decide) ?_
      refine g_iload_n X dX7_takeTurn_53 2 rfl rfl ?_
      refine g_bipush X (32 : Int32) dX7_takeTurn_54 (by decide) ?_
      refine g_idiv X dX7_takeTurn_56 (by decide) ?_
      refine g_bipush X (20 : Int32) dX7_takeTurn_57 (by decide) ?_
      refine g_irem X dX7_takeTurn_59 (by decide) ?_
      refine g_iadd X dX7_takeTurn_60 ?_
      obtain ⟨q783, hq783, hf⟩ := obind hf
      refine g_callV (gs' := [FP h0 h1 h2 h3 h4 h5 h6 h7 h8 h9, TB cy h3 b1 b2 b3 q783.2, SU cy b2 b4 v5, SC b3 v6]) (rest := []) X dX7_takeTurn_61 (c_X4_tryArms l D cy ad h3 b1 b2 b3 v4 ((1 : Int32) + ((p1 / (8 : Int32)) - (p1 / (8 : Int32)) / (20 : Int32) * (20 : Int32))) ((1 : Int32) + (((p1 / (8 : Int32)) / (32 : Int32)) - ((p1 / (8 : Int32)) / (32 : Int32)) / (20 : Int32) * (20 : Int32))) hq783) mf_X4_tryArms mv_X4_tryArms lkm_X7_138 ⟨(Nat.le_of_ble_eq_true rfl), (Nat.le_of_ble_eq_true rfl), (Nat.le_of_ble_eq_true rfl), (Nat.le_of_ble_eq_true rfl)⟩ 1 0 rfl rfl rfl rfl [1, 0, 2, 3] _ (by decide : [1, 0, 2, 3].Perm (List.range 4)) rfl (by decide : [1, 0, 2, 3].Perm (List.range 4)) rfl (Nat.le_of_ble_eq_true rfl) rfl ?_
      refine g_pop X dX7_takeTurn_64 rfl ?_
      refine g_goto X 189 dX7_takeTurn_65 (by decide) ?_
      have hf := Option.some.inj hf
      subst hf
      exact g_vret X hr dX7_takeTurn_189
  · have hf := oneg c774 hf
    by_cases c775 : (p1 - p1 / (8 : Int32) * (8 : Int32)) = (1 : Int32)
    · have hf := opos c775 hf
      refine g_tableIn (off := 74) X 83 dX7_takeTurn_9 (by rw [c775]; decide) (by rw [c775]; decide) (by rw [c775]; decide) (by decide) ?_
      refine g_aload_n X dX7_takeTurn_83 0 rfl rfl ?_
      refine g_get X dX7_takeTurn_84 ck_X7 0 0 2 rfl rfl (Nat.le_of_ble_eq_true rfl) lkf_X7_23 rfl ?_
      obtain ⟨q781, hq781, hf⟩ := obind hf
      refine g_callV (gs' := [FP h0 h1 h2 h3 h4 h5 h6 h7 h8 h9, TB cy h3 b1 b2 b3 q781.2.1, SU cy b2 b4 q781.2.2.1, SC b3 q781.2.2.2]) (rest := []) X dX7_takeTurn_87 (c_X4_tryForgetting l D cy ad h3 b1 b2 b3 b4 v4 v5 v6 hq781) mf_X4_tryForgetting mv_X4_tryForgetting lkm_X7_246 ⟨(Nat.le_of_ble_eq_true rfl), (Nat.le_of_ble_eq_true rfl), (Nat.le_of_ble_eq_true rfl), (Nat.le_of_ble_eq_true rfl)⟩ 1 0 rfl rfl rfl rfl [1, 2, 3, 0] _ (by decide : [1, 2, 3, 0].Perm (List.range 4)) rfl (by decide : [1, 2, 3, 0].Perm (List.range 4)) rfl (Nat.le_of_ble_eq_true rfl) rfl ?_
      refine g_pop X dX7_takeTurn_90 rfl ?_
      refine g_goto X 189 dX7_takeTurn_91 (by decide) ?_
      have hf := Option.some.inj hf
      subst hf
      exact g_vret X hr dX7_takeTurn_189
    · have hf := oneg c775 hf
      by_cases c776 : (p1 - p1 / (8 : Int32) * (8 : Int32)) = (2 : Int32)
      · have hf := opos c776 hf
        refine g_tableIn (off := 85) X 94 dX7_takeTurn_9 (by rw [c776]; decide) (by rw [c776]; decide) (by rw [c776]; decide) (by decide) ?_
        refine g_aload_n X dX7_takeTurn_94 0 rfl rfl ?_
        refine g_get X dX7_takeTurn_95 ck_X7 0 0 2 rfl rfl (Nat.le_of_ble_eq_true rfl) lkf_X7_23 rfl ?_
        refine g_iload_n X dX7_takeTurn_98 2 rfl rfl ?_
        refine g_bipush X (12 : Int32) dX7_takeTurn_99 (by decide) ?_
        refine g_irem X dX7_takeTurn_101 (by decide) ?_
        obtain ⟨q777, hq777, hf⟩ := obind hf
        refine g_callV (gs' := [FP h0 h1 h2 h3 h4 h5 h6 h7 h8 h9, TB cy h3 b1 b2 b3 v4, SU cy b2 b4 v5, SC b3 v6]) (rest := []) X dX7_takeTurn_102 (c_X4_hasCoin l D cy ad h3 b1 b2 b3 v4 ((p1 / (8 : Int32)) - (p1 / (8 : Int32)) / (12 : Int32) * (12 : Int32)) hq777) mf_X4_hasCoin mv_X4_hasCoin lkm_X7_178 ⟨(Nat.le_of_ble_eq_true rfl), (Nat.le_of_ble_eq_true rfl), (Nat.le_of_ble_eq_true rfl), (Nat.le_of_ble_eq_true rfl)⟩ 1 0 rfl rfl rfl rfl [1, 0, 2, 3] _ (by decide : [1, 0, 2, 3].Perm (List.range 4)) rfl (by decide : [1, 0, 2, 3].Perm (List.range 4)) rfl (Nat.le_of_ble_eq_true rfl) rfl ?_
        refine g_if_eq X 189 dX7_takeTurn_105 (by decide) (fun c780 => ?_) (fun c780 => ?_)
        · have hf := opos c780 hf
          have hf := Option.some.inj hf
          subst hf
          exact g_vret X hr dX7_takeTurn_189
        · have hf := oneg c780 hf
          refine g_aload_n X dX7_takeTurn_108 0 rfl rfl ?_
          refine g_get X dX7_takeTurn_109 ck_X7 0 0 2 rfl rfl (Nat.le_of_ble_eq_true rfl) lkf_X7_23 rfl ?_
          refine g_iload_n X dX7_takeTurn_112 2 rfl rfl ?_
          refine g_bipush X (12 : Int32) dX7_takeTurn_113 (by decide) ?_
          refine g_irem X dX7_takeTurn_115 (by decide) ?_
          refine g_iload_n X dX7_takeTurn_116 2 rfl rfl ?_
          refine g_bipush X (16 : Int32) dX7_takeTurn_117 (by decide) ?_
          refine g_idiv X dX7_takeTurn_119 (by decide) ?_
          refine g_iconst X (2 : Int32) dX7_takeTurn_120 (by decide) ?_
          refine g_irem X dX7_takeTurn_121 (by decide) ?_
          refine g_iconst X (1 : Int32) dX7_takeTurn_122 (by decide) ?_
          refine g_icmp_ne X 130 dX7_takeTurn_123 (by decide) (fun c779 => ?_) (fun c779 => ?_)
          · have hf := oneg c779 hf
            refine g_iconst X (0 : Int32) dX7_takeTurn_130 (by decide) ?_
            refine g_sub [] (lv' := []) rfl ?_
            exact j_X7_takeTurn_b131 X hr v4 v5 v6 false ((p1 / (8 : Int32)) - (p1 / (8 : Int32)) / (12 : Int32) * (12 : Int32)) hf
          · have hf := opos c779 hf
            refine g_iconst X (1 : Int32) dX7_takeTurn_126 (by decide) ?_
            refine g_goto X 131 dX7_takeTurn_127 (by decide) ?_
            refine g_sub [] (lv' := []) rfl ?_
            exact j_X7_takeTurn_b131 X hr v4 v5 v6 true ((p1 / (8 : Int32)) - (p1 / (8 : Int32)) / (12 : Int32) * (12 : Int32)) hf
      · have hf := oneg c776 hf
        refine g_tableOut X 138 dX7_takeTurn_9 (sw_out (fun k9 h91 h92 h93 => ?_)) (by decide) ?_
        · have := sw_ne (by decide : ((0 : Int32)).toInt = 0) c774
          have := sw_ne (by decide : ((1 : Int32)).toInt = 1) c775
          have := sw_ne (by decide : ((2 : Int32)).toInt = 2) c776
          omega
        · refine g_iconst X (1 : Int32) dX7_takeTurn_138 (by decide) ?_
          refine g_aload_n X dX7_takeTurn_139 0 rfl rfl ?_
          refine g_get X dX7_takeTurn_140 ck_X7 0 0 2 rfl rfl (Nat.le_of_ble_eq_true rfl) lkf_X7_23 rfl ?_
          refine g_get X dX7_takeTurn_143 ck_X4 1 0 0 rfl rfl (Nat.le_of_ble_eq_true rfl) lkf_X7_145 rfl ?_
          refine g_ishl X dX7_takeTurn_146 ?_
          refine g_iconst X (1 : Int32) dX7_takeTurn_147 (by decide) ?_
          refine g_isub X dX7_takeTurn_148 ?_
          refine g_istore_n (lv' := [(0, .ref h0), (1, .int p1), (2, .int (p1 / (8 : Int32))), (3, .int (((1 : Int32) <<< (v4.1 &&& 31)) - (1 : Int32)))]) X dX7_takeTurn_149 [1, 2, 3, 0] rfl (Nat.le_of_ble_eq_true rfl) rfl ?_
          refine g_iload_n X dX7_takeTurn_150 2 rfl rfl ?_
          refine g_sipush X (4096 : Int32) dX7_takeTurn_151 (by decide) ?_
          refine g_irem X dX7_takeTurn_154 (by decide) ?_
          refine g_iload_n X dX7_takeTurn_155 3 rfl rfl ?_
          refine g_iand X dX7_takeTurn_156 ?_
          refine g_istore (lv' := [(0, .ref h0), (1, .int p1), (2, .int (p1 / (8 : Int32))), (3, .int (((1 : Int32) <<< (v4.1 &&& 31)) - (1 : Int32))), (4, .int (((p1 / (8 : Int32)) - (p1 / (8 : Int32)) / (4096 : Int32) * (4096 : Int32)) &&& (((1 : Int32) <<< (v4.1 &&& 31)) - (1 : Int32))))]) X dX7_takeTurn_157 [1, 2, 3, 4, 0] (Nat.le_of_ble_eq_true rfl) rfl ?_
          refine g_sub [0, 2, 3, 4] (lv' := [(0, .ref h0), (2, .int (p1 / (8 : Int32))), (3, .int (((1 : Int32) <<< (v4.1 &&& 31)) - (1 : Int32))), (4, .int (((p1 / (8 : Int32)) - (p1 / (8 : Int32)) / (4096 : Int32) * (4096 : Int32)) &&& (((1 : Int32) <<< (v4.1 &&& 31)) - (1 : Int32))))]) rfl ?_
          exact j_X7_takeTurn_b159 X hr v4 v5 v6 (p1 / (8 : Int32)) (((1 : Int32) <<< (v4.1 &&& 31)) - (1 : Int32)) (((p1 / (8 : Int32)) - (p1 / (8 : Int32)) / (4096 : Int32) * (4096 : Int32)) &&& (((1 : Int32) <<< (v4.1 &&& 31)) - (1 : Int32))) hf
abbrev rmX7_simulate : Room := ({ frames := 6, cells := 1, slots := 6, locals := 99 } : Room)
def f_X7_simulate_b11 (v1 : TBv) (v2 : Fn) (v4 : TBv) (v5 : Fn) (v6 : SCv) : Option ((Int32 × TBv × Fn × SCv) ⊕ (Nat × TBv × Fn × SCv)) :=
  some (.inr (1, v4, v5, v6))
set_option maxRecDepth 100000 in
set_option maxHeartbeats 4000000 in
theorem j_X7_simulate_b11 {p : Program} {l : Launch} {e : Env} {s : State} {m : MethodId} {args : Array Value} {below : List Frame} {meth : Method} {c : Code} {A : Nat → Prop} {D : va_G} {cy : Nat → ClassId} {ad : (Nat → Nat) × (Nat → Nat)} (X : gK p s m args meth c A D cy ad cX7_simulate 7 RX7) (hr : meth.sig.returnType = (some .int)) (hne : ∀ x ∈ c.exceptionTable.toList, False) (hfl : l.stackTraces = false) {h0 h1 h2 h3 h4 h5 h6 h7 h8 h9 a1 a2 a3 a4 b1 b2 b3 b4 : Nat} (v1 : TBv) (v2 : Fn) (v4 : TBv) (v5 : Fn) (v6 : SCv) {q : (Int32 × TBv × Fn × SCv) ⊕ (Nat × TBv × Fn × SCv)} (hf : f_X7_simulate_b11 v1 v2 v4 v5 v6 = some q) : GW p l e rmX7_simulate s m args below meth c A D 7 0 0 (vx_MQ below (xmQ D cy A (Sum.elim (fun q => Sum.inl ((some (.int q.1)), [FP h0 h1 h2 h3 h4 h5 h6 h7 h8 h9, TB cy h2 a1 a2 a3 v1, SU cy a2 a4 v2, TB cy h3 b1 b2 b3 q.2.1, SU cy b2 b4 q.2.2.1, SC b3 q.2.2.2])) (fun q => Sum.inr (q.1, [FP h0 h1 h2 h3 h4 h5 h6 h7 h8 h9, TB cy h2 a1 a2 a3 v1, SU cy a2 a4 v2, TB cy h3 b1 b2 b3 q.2.1, SU cy b2 b4 q.2.2.1, SC b3 q.2.2.2])) q : xRes)) (xmX D cy A (Sum.elim (fun q => Sum.inl ((some (.int q.1)), [FP h0 h1 h2 h3 h4 h5 h6 h7 h8 h9, TB cy h2 a1 a2 a3 v1, SU cy a2 a4 v2, TB cy h3 b1 b2 b3 q.2.1, SU cy b2 b4 q.2.2.1, SC b3 q.2.2.2])) (fun q => Sum.inr (q.1, [FP h0 h1 h2 h3 h4 h5 h6 h7 h8 h9, TB cy h2 a1 a2 a3 v1, SU cy a2 a4 v2, TB cy h3 b1 b2 b3 q.2.1, SU cy b2 b4 q.2.2.1, SC b3 q.2.2.2])) q : xRes)) args s 1 6 A) 11 [] [] [FP h0 h1 h2 h3 h4 h5 h6 h7 h8 h9, TB cy h2 a1 a2 a3 v1, SU cy a2 a4 v2, TB cy h3 b1 b2 b3 v4, SU cy b2 b4 v5, SC b3 v6] := by
  unfold f_X7_simulate_b11 at hf
  have hf := Option.some.inj hf
  subst hf
  exact g_throwSW X hne hfl 1 25 (by decide) rfl rfl dX7_simulate_11 dX7_simulate_14 dX7_simulate_15 dX7_simulate_18 dX7_simulate_21 xw_1 ⟨(Nat.le_of_ble_eq_true rfl), (Nat.le_of_ble_eq_true rfl), (Nat.le_of_ble_eq_true rfl), (Nat.le_of_ble_eq_true rfl)⟩ ⟨(Nat.le_of_ble_eq_true rfl), (Nat.le_of_ble_eq_true rfl)⟩
def f_X7_simulate_B39 (v1 : TBv) (v2 : Fn) (x3 : Int32) (z : Int64 × Int32 × TBv × Fn × SCv) : Option ((Int64 × Int32 × TBv × Fn × SCv) ⊕ ((TBv × Fn × SCv))) :=
  if x3 ≤ z.2.1 then some (.inr ((z.2.2.1, z.2.2.2.1, z.2.2.2.2))) else (f_X7_takeTurn z.2.2.1 z.2.2.2.1 z.2.2.2.2 (((((z.1 * (6364136223846793005 : Int64)) + (1442695040888963407 : Int64)).toUInt64 >>> ((33 : Int32).toInt64.toUInt64 &&& Int64.toUInt64 63)).toInt64).toInt32)).bind (fun q792 => some (.inl (((z.1 * (6364136223846793005 : Int64)) + (1442695040888963407 : Int64)), (z.2.1 + (1 : Int32)), q792.1, q792.2.1, q792.2.2)))
set_option maxRecDepth 100000 in
set_option maxHeartbeats 4000000 in
theorem b_X7_simulate_B39 {p : Program} {l : Launch} {e : Env} {s : State} {m : MethodId} {args : Array Value} {below : List Frame} {meth : Method} {c : Code} {A : Nat → Prop} {D : va_G} {cy : Nat → ClassId} {ad : (Nat → Nat) × (Nat → Nat)} {Q : State → Prop} (X : gK p s m args meth c A D cy ad cX7_simulate 7 RX7) (hr : meth.sig.returnType = (some .int)) (hne : ∀ x ∈ c.exceptionTable.toList, False) (hfl : l.stackTraces = false) {h0 h1 h2 h3 h4 h5 h6 h7 h8 h9 a1 a2 a3 a4 b1 b2 b3 b4 : Nat} (v1 : TBv) (v2 : Fn) (x3 : Int32) (z : Int64 × Int32 × TBv × Fn × SCv) {q : (Int64 × Int32 × TBv × Fn × SCv) ⊕ ((TBv × Fn × SCv))} (hf : f_X7_simulate_B39 v1 v2 x3 z = some q) (K1 : ∀ s' : Int64 × Int32 × TBv × Fn × SCv, q = .inl s' → GW p l e rmX7_simulate s m args below meth c A D 7 0 0 Q 39 [(0, .ref h0), (3, .int x3), (4, .long s'.1), (6, .int s'.2.1)] [] [FP h0 h1 h2 h3 h4 h5 h6 h7 h8 h9, TB cy h2 a1 a2 a3 v1, SU cy a2 a4 v2, TB cy h3 b1 b2 b3 (s'.2.2.1.1, s'.2.2.1.2.1, s'.2.2.1.2.2.1, s'.2.2.1.2.2.2.1, s'.2.2.1.2.2.2.2.1, s'.2.2.1.2.2.2.2.2.1, s'.2.2.1.2.2.2.2.2.2.1, s'.2.2.1.2.2.2.2.2.2.2), SU cy b2 b4 s'.2.2.2.1, SC b3 (s'.2.2.2.2.1, s'.2.2.2.2.2.1, s'.2.2.2.2.2.2.1, s'.2.2.2.2.2.2.2.1, s'.2.2.2.2.2.2.2.2.1, s'.2.2.2.2.2.2.2.2.2)]) (K2 : ∀ e' : TBv × Fn × SCv, q = .inr (e') → GW p l e rmX7_simulate s m args below meth c A D 7 0 0 Q 73 [(0, .ref h0)] [] [FP h0 h1 h2 h3 h4 h5 h6 h7 h8 h9, TB cy h2 a1 a2 a3 v1, SU cy a2 a4 v2, TB cy h3 b1 b2 b3 (e'.1.1, e'.1.2.1, e'.1.2.2.1, e'.1.2.2.2.1, e'.1.2.2.2.2.1, e'.1.2.2.2.2.2.1, e'.1.2.2.2.2.2.2.1, e'.1.2.2.2.2.2.2.2), SU cy b2 b4 e'.2.1, SC b3 (e'.2.2.1, e'.2.2.2.1, e'.2.2.2.2.1, e'.2.2.2.2.2.1, e'.2.2.2.2.2.2.1, e'.2.2.2.2.2.2.2)]) : GW p l e rmX7_simulate s m args below meth c A D 7 0 0 Q 39 [(0, .ref h0), (3, .int x3), (4, .long z.1), (6, .int z.2.1)] [] [FP h0 h1 h2 h3 h4 h5 h6 h7 h8 h9, TB cy h2 a1 a2 a3 v1, SU cy a2 a4 v2, TB cy h3 b1 b2 b3 z.2.2.1, SU cy b2 b4 z.2.2.2.1, SC b3 z.2.2.2.2] := by
  unfold f_X7_simulate_B39 at hf
  refine g_iload X dX7_simulate_39 3 rfl ?_
  refine g_iload_n X dX7_simulate_41 1 rfl rfl ?_
  refine g_icmp_ge X 73 dX7_simulate_42 (by decide) (fun c793 => ?_) (fun c793 => ?_)
  · have hf := opos c793 hf
    refine g_sub [0] (lv' := [(0, .ref h0)]) rfl ?_
    exact K2 (z.2.2.1, z.2.2.2.1, z.2.2.2.2) (Option.some.inj hf).symm
  · have hf := oneg c793 hf
    refine g_lload X dX7_simulate_45 2 rfl ?_
    refine g_ldc2 X lkl_X7_300 dX7_simulate_47 ?_
    refine g_lmul X dX7_simulate_50 ?_
    refine g_ldc2 X lkl_X7_302 dX7_simulate_51 ?_
    refine g_ladd X dX7_simulate_54 ?_
    refine g_lstore (lv' := [(0, .ref h0), (3, .int x3), (4, .long ((z.1 * (6364136223846793005 : Int64)) + (1442695040888963407 : Int64))), (6, .int z.2.1)]) X dX7_simulate_55 [1, 2, 0, 3] (Nat.le_of_ble_eq_true rfl) rfl ?_
    refine g_aload_n X dX7_simulate_57 0 rfl rfl ?_
    refine g_lload X dX7_simulate_58 2 rfl ?_
    refine g_bipush X (33 : Int32) dX7_simulate_60 (by decide) ?_
    refine g_lushr X dX7_simulate_62 ?_
    refine g_l2i X dX7_simulate_63 ?_
    obtain ⟨q792, hq792, hf⟩ := obind hf
    refine g_callV (gs' := [FP h0 h1 h2 h3 h4 h5 h6 h7 h8 h9, TB cy h2 a1 a2 a3 v1, SU cy a2 a4 v2, TB cy h3 b1 b2 b3 q792.1, SU cy b2 b4 q792.2.1, SC b3 q792.2.2]) (rest := []) X dX7_simulate_64 (c_X7_takeTurn l D cy ad h0 h1 h2 h3 h4 h5 h6 h7 h8 h9 b1 b2 b3 b4 z.2.2.1 z.2.2.2.1 z.2.2.2.2 (((((z.1 * (6364136223846793005 : Int64)) + (1442695040888963407 : Int64)).toUInt64 >>> ((33 : Int32).toInt64.toUInt64 &&& Int64.toUInt64 63)).toInt64).toInt32) hq792) mf_X7_takeTurn mv_X7_takeTurn lkm_X7_304 ⟨(Nat.le_of_ble_eq_true rfl), (Nat.le_of_ble_eq_true rfl), (Nat.le_of_ble_eq_true rfl), (Nat.le_of_ble_eq_true rfl)⟩ 0 0 rfl rfl rfl rfl [0, 3, 4, 5, 1, 2] _ (by decide : [0, 3, 4, 5, 1, 2].Perm (List.range 6)) rfl (by decide : [0, 3, 4, 5, 1, 2].Perm (List.range 6)) rfl (Nat.le_of_ble_eq_true rfl) rfl ?_
    refine g_iinc (lv' := [(0, .ref h0), (3, .int x3), (4, .long ((z.1 * (6364136223846793005 : Int64)) + (1442695040888963407 : Int64))), (6, .int (z.2.1 + (1 : Int32)))]) (v := (1 : Int32)) X dX7_simulate_67 3 rfl (by decide) [1, 2, 3, 0] (Nat.le_of_ble_eq_true rfl) rfl ?_
    refine g_goto X 39 dX7_simulate_70 (by decide) ?_
    exact K1 (((z.1 * (6364136223846793005 : Int64)) + (1442695040888963407 : Int64)), (z.2.1 + (1 : Int32)), q792.1, q792.2.1, q792.2.2) (Option.some.inj hf).symm
set_option maxRecDepth 100000 in
set_option maxHeartbeats 4000000 in
theorem w_X7_simulate_B39 {p : Program} {l : Launch} {e : Env} {s : State} {m : MethodId} {args : Array Value} {below : List Frame} {meth : Method} {c : Code} {A : Nat → Prop} {D : va_G} {cy : Nat → ClassId} {ad : (Nat → Nat) × (Nat → Nat)} {Q : State → Prop} (X : gK p s m args meth c A D cy ad cX7_simulate 7 RX7) (hr : meth.sig.returnType = (some .int)) (hne : ∀ x ∈ c.exceptionTable.toList, False) (hfl : l.stackTraces = false) {h0 h1 h2 h3 h4 h5 h6 h7 h8 h9 a1 a2 a3 a4 b1 b2 b3 b4 : Nat} (v1 : TBv) (v2 : Fn) (x3 : Int32) {n : Nat} {z : Int64 × Int32 × TBv × Fn × SCv} {q : (TBv × Fn × SCv)} (hf : itl (f_X7_simulate_B39 v1 v2 x3) n z = some q) (K2 : GW p l e rmX7_simulate s m args below meth c A D 7 0 0 Q 73 [(0, .ref h0)] [] [FP h0 h1 h2 h3 h4 h5 h6 h7 h8 h9, TB cy h2 a1 a2 a3 v1, SU cy a2 a4 v2, TB cy h3 b1 b2 b3 q.1, SU cy b2 b4 q.2.1, SC b3 q.2.2]) : GW p l e rmX7_simulate s m args below meth c A D 7 0 0 Q 39 [(0, .ref h0), (3, .int x3), (4, .long z.1), (6, .int z.2.1)] [] [FP h0 h1 h2 h3 h4 h5 h6 h7 h8 h9, TB cy h2 a1 a2 a3 v1, SU cy a2 a4 v2, TB cy h3 b1 b2 b3 z.2.2.1, SU cy b2 b4 z.2.2.2.1, SC b3 z.2.2.2.2] :=
  itl_ind (f := f_X7_simulate_B39 v1 v2 x3) (I := fun z => GW p l e rmX7_simulate s m args below meth c A D 7 0 0 Q 39 [(0, .ref h0), (3, .int x3), (4, .long z.1), (6, .int z.2.1)] [] [FP h0 h1 h2 h3 h4 h5 h6 h7 h8 h9, TB cy h2 a1 a2 a3 v1, SU cy a2 a4 v2, TB cy h3 b1 b2 b3 z.2.2.1, SU cy b2 b4 z.2.2.2.1, SC b3 z.2.2.2.2]) (J := (fun q => GW p l e rmX7_simulate s m args below meth c A D 7 0 0 Q 73 [(0, .ref h0)] [] [FP h0 h1 h2 h3 h4 h5 h6 h7 h8 h9, TB cy h2 a1 a2 a3 v1, SU cy a2 a4 v2, TB cy h3 b1 b2 b3 q.1, SU cy b2 b4 q.2.1, SC b3 q.2.2])) (fun z x h k1 k2 => b_X7_simulate_B39 X hr hne hfl v1 v2 x3 z h (fun s' hs => k1 s' hs) (fun e' he => k2 e' he)) n z q hf K2
def f_X7_simulate (v1 : TBv) (v2 : Fn) (v4 : TBv) (v5 : Fn) (v6 : SCv) (p1 : Int64) (p2 : Int32) : Option ((Int32 × TBv × Fn × SCv) ⊕ (Nat × TBv × Fn × SCv)) :=
  if p2 < (1 : Int32) then f_X7_simulate_b11 v1 v2 v4 v5 v6 else if p2 ≤ (60 : Int32) then (f_X4_copyFrom v4 v5 v1 v2).bind (fun q791 => (itl (f_X7_simulate_B39 v1 v2 p2) FU (p1, (0 : Int32), q791.1, q791.2, v6)).bind (fun q794 => (f_X3_count q794.2.1).bind (fun q795 => some (.inl ((((1000 : Int32) * q794.1.2.2.2.2.2.2.1) + q795), q794.1, q794.2.1, q794.2.2))))) else f_X7_simulate_b11 v1 v2 v4 v5 v6
set_option maxRecDepth 100000 in
set_option maxHeartbeats 4000000 in
theorem c_X7_simulate (l : Launch) (D : va_G) (cy : Nat → ClassId) (ad : (Nat → Nat) × (Nat → Nat)) (h0 : Nat) (h1 : Nat) (h2 : Nat) (h3 : Nat) (h4 : Nat) (h5 : Nat) (h6 : Nat) (h7 : Nat) (h8 : Nat) (h9 : Nat) (a1 : Nat) (a2 : Nat) (a3 : Nat) (a4 : Nat) (b1 : Nat) (b2 : Nat) (b3 : Nat) (b4 : Nat) (v1 : TBv) (v2 : Fn) (v4 : TBv) (v5 : Fn) (v6 : SCv) (p1 : Int64) (p2 : Int32) (hfl : l.stackTraces = false) {q : (Int32 × TBv × Fn × SCv) ⊕ (Nat × TBv × Fn × SCv)} (hf : f_X7_simulate v1 v2 v4 v5 v6 p1 p2 = some q) : XM l yX7_simulate cX7_simulate 7 (some .int) rmX7_simulate D cy ad [.ref h0, .long p1, .int p2] [FP h0 h1 h2 h3 h4 h5 h6 h7 h8 h9, TB cy h2 a1 a2 a3 v1, SU cy a2 a4 v2, TB cy h3 b1 b2 b3 v4, SU cy b2 b4 v5, SC b3 v6] (Sum.elim (fun q => Sum.inl ((some (.int q.1)), [FP h0 h1 h2 h3 h4 h5 h6 h7 h8 h9, TB cy h2 a1 a2 a3 v1, SU cy a2 a4 v2, TB cy h3 b1 b2 b3 q.2.1, SU cy b2 b4 q.2.2.1, SC b3 q.2.2.2])) (fun q => Sum.inr (q.1, [FP h0 h1 h2 h3 h4 h5 h6 h7 h8 h9, TB cy h2 a1 a2 a3 v1, SU cy a2 a4 v2, TB cy h3 b1 b2 b3 q.2.1, SU cy b2 b4 q.2.2.1, SC b3 q.2.2.2])) q : xRes) := by
  refine xm_of (lv0 := [(0, .ref h0), (1, .long p1), (3, .int p2)]) (by decide) (Nat.le_of_ble_eq_true rfl) rfl ?_
  intro p e s m args below meth c A X hr hne
  have X : gK p s m args meth c A D cy ad cX7_simulate 7 RX7 := X
  unfold f_X7_simulate at hf
  refine g_iload_n X dX7_simulate_0 2 rfl rfl ?_
  refine g_iconst X (1 : Int32) dX7_simulate_1 (by decide) ?_
  refine g_icmp_lt X 11 dX7_simulate_2 (by decide) (fun c797 => ?_) (fun c797 => ?_)
  · have hf := opos c797 hf
    refine g_sub [] (lv' := []) rfl ?_
    exact j_X7_simulate_b11 X hr hne hfl v1 v2 v4 v5 v6 hf
  · have hf := oneg c797 hf
    refine g_iload_n X dX7_simulate_5 2 rfl rfl ?_
    refine g_bipush X (60 : Int32) dX7_simulate_6 (by decide) ?_
    refine g_icmp_le X 22 dX7_simulate_8 (by decide) (fun c796 => ?_) (fun c796 => ?_)
    · have hf := opos c796 hf
      refine g_aload_n X dX7_simulate_22 0 rfl rfl ?_
      refine g_get X dX7_simulate_23 ck_X7 0 0 2 rfl rfl (Nat.le_of_ble_eq_true rfl) lkf_X7_23 rfl ?_
      refine g_aload_n X dX7_simulate_26 0 rfl rfl ?_
      refine g_get X dX7_simulate_27 ck_X7 0 0 1 rfl rfl (Nat.le_of_ble_eq_true rfl) lkf_X7_19 rfl ?_
      obtain ⟨q791, hq791, hf⟩ := obind hf
      refine g_callV (gs' := [FP h0 h1 h2 h3 h4 h5 h6 h7 h8 h9, TB cy h2 a1 a2 a3 v1, SU cy a2 a4 v2, TB cy h3 b1 b2 b3 q791.1, SU cy b2 b4 q791.2, SC b3 v6]) (rest := []) X dX7_simulate_30 (c_X4_copyFrom l D cy ad h3 b1 b2 b3 b4 h2 a1 a2 a3 a4 v4 v5 v1 v2 hq791) mf_X4_copyFrom mv_X4_copyFrom lkm_X7_290 ⟨(Nat.le_of_ble_eq_true rfl), (Nat.le_of_ble_eq_true rfl), (Nat.le_of_ble_eq_true rfl), (Nat.le_of_ble_eq_true rfl)⟩ 3 0 rfl rfl rfl rfl [3, 4, 1, 2, 0, 5] _ (by decide : [3, 4, 1, 2, 0, 5].Perm (List.range 6)) rfl (by decide : [3, 4, 1, 2, 0, 5].Perm (List.range 6)) rfl (Nat.le_of_ble_eq_true rfl) rfl ?_
      refine g_lload_n X dX7_simulate_33 1 rfl rfl ?_
      refine g_lstore (lv' := [(0, .ref h0), (1, .long p1), (3, .int p2), (4, .long p1)]) X dX7_simulate_34 [1, 2, 3, 0] (Nat.le_of_ble_eq_true rfl) rfl ?_
      refine g_iconst X (0 : Int32) dX7_simulate_36 (by decide) ?_
      refine g_istore (lv' := [(0, .ref h0), (1, .long p1), (3, .int p2), (4, .long p1), (6, .int (0 : Int32))]) X dX7_simulate_37 [1, 2, 3, 4, 0] (Nat.le_of_ble_eq_true rfl) rfl ?_
      obtain ⟨q794, hq794, hf⟩ := obind hf
      refine g_sub [0, 2, 3, 4] (lv' := [(0, .ref h0), (3, .int p2), (4, .long p1), (6, .int (0 : Int32))]) rfl ?_
      refine w_X7_simulate_B39 X hr hne hfl v1 v2 p2 hq794 ?_
      refine g_sipush X (1000 : Int32) dX7_simulate_73 (by decide) ?_
      refine g_aload_n X dX7_simulate_76 0 rfl rfl ?_
      refine g_get X dX7_simulate_77 ck_X7 0 0 2 rfl rfl (Nat.le_of_ble_eq_true rfl) lkf_X7_23 rfl ?_
      refine g_get X dX7_simulate_80 ck_X4 3 0 6 rfl rfl (Nat.le_of_ble_eq_true rfl) lkf_X7_158 rfl ?_
      refine g_imul X dX7_simulate_83 ?_
      refine g_aload_n X dX7_simulate_84 0 rfl rfl ?_
      refine g_get X dX7_simulate_85 ck_X7 0 0 2 rfl rfl (Nat.le_of_ble_eq_true rfl) lkf_X7_23 rfl ?_
      refine g_get X dX7_simulate_88 ck_X4 3 0 8 rfl rfl (Nat.le_of_ble_eq_true rfl) lkf_X7_149 rfl ?_
      obtain ⟨q795, hq795, hf⟩ := obind hf
      refine g_callV (gs' := [FP h0 h1 h2 h3 h4 h5 h6 h7 h8 h9, TB cy h2 a1 a2 a3 v1, SU cy a2 a4 v2, TB cy h3 b1 b2 b3 q794.1, SU cy b2 b4 q794.2.1, SC b3 q794.2.2]) (rest := [.int ((1000 : Int32) * q794.1.2.2.2.2.2.2.1)]) X dX7_simulate_91 (c_X3_count l D cy ad b2 b4 q794.2.1 hq795) mf_X3_count mv_X3_count lkm_X7_153 ⟨(Nat.le_of_ble_eq_true rfl), (Nat.le_of_ble_eq_true rfl), (Nat.le_of_ble_eq_true rfl), (Nat.le_of_ble_eq_true rfl)⟩ 4 0 rfl rfl rfl rfl [4, 0, 1, 2, 3, 5] _ (by decide : [4, 0, 1, 2, 3, 5].Perm (List.range 6)) rfl (by decide : [4, 0, 1, 2, 3, 5].Perm (List.range 6)) rfl (Nat.le_of_ble_eq_true rfl) rfl ?_
      refine g_iadd X dX7_simulate_94 ?_
      have hf := Option.some.inj hf
      subst hf
      exact g_xret (Nat.le_of_ble_eq_true rfl) (Nat.le_of_ble_eq_true rfl) (g_iret X hr dX7_simulate_95)
    · have hf := oneg c796 hf
      refine g_sub [] (lv' := []) rfl ?_
      exact j_X7_simulate_b11 X hr hne hfl v1 v2 v4 v5 v6 hf
abbrev rmX7_save : Room := ({ frames := 6, cells := 1, slots := 6, locals := 90 } : Room)
def f_X7_save_b9 (v1 : TBv) (v2 : Fn) (v7 : Int32) (v8 : TBv) (v9 : Fn) (v10 : Int32) (v11 : TBv) (v12 : Fn) : Option ((Int32 × Int32 × TBv × Fn × Int32 × TBv × Fn) ⊕ (Nat × Int32 × TBv × Fn × Int32 × TBv × Fn)) :=
  some (.inr (3, v7, v8, v9, v10, v11, v12))
set_option maxRecDepth 100000 in
set_option maxHeartbeats 4000000 in
theorem j_X7_save_b9 {p : Program} {l : Launch} {e : Env} {s : State} {m : MethodId} {args : Array Value} {below : List Frame} {meth : Method} {c : Code} {A : Nat → Prop} {D : va_G} {cy : Nat → ClassId} {ad : (Nat → Nat) × (Nat → Nat)} (X : gK p s m args meth c A D cy ad cX7_save 3 RX7) (hr : meth.sig.returnType = (some .int)) (hne : ∀ x ∈ c.exceptionTable.toList, False) (hfl : l.stackTraces = false) {h0 h1 h2 h3 h4 h5 h6 h7 h8 h9 a1 a2 a3 a4 d1 d2 d3 d4 d5 e1 e2 e3 e4 e5 : Nat} (v1 : TBv) (v2 : Fn) (v7 : Int32) (v8 : TBv) (v9 : Fn) (v10 : Int32) (v11 : TBv) (v12 : Fn) {q : (Int32 × Int32 × TBv × Fn × Int32 × TBv × Fn) ⊕ (Nat × Int32 × TBv × Fn × Int32 × TBv × Fn)} (hf : f_X7_save_b9 v1 v2 v7 v8 v9 v10 v11 v12 = some q) : GW p l e rmX7_save s m args below meth c A D 3 0 0 (vx_MQ below (xmQ D cy A (Sum.elim (fun q => Sum.inl ((some (.int q.1)), [FP h0 h1 h2 h3 h4 h5 h6 h7 h8 h9, TB cy h2 a1 a2 a3 v1, SU cy a2 a4 v2, SL h5 d1 q.2.1, TB cy d1 d2 d3 d4 q.2.2.1, SU cy d3 d5 q.2.2.2.1, SL h6 e1 q.2.2.2.2.1, TB cy e1 e2 e3 e4 q.2.2.2.2.2.1, SU cy e3 e5 q.2.2.2.2.2.2])) (fun q => Sum.inr (q.1, [FP h0 h1 h2 h3 h4 h5 h6 h7 h8 h9, TB cy h2 a1 a2 a3 v1, SU cy a2 a4 v2, SL h5 d1 q.2.1, TB cy d1 d2 d3 d4 q.2.2.1, SU cy d3 d5 q.2.2.2.1, SL h6 e1 q.2.2.2.2.1, TB cy e1 e2 e3 e4 q.2.2.2.2.2.1, SU cy e3 e5 q.2.2.2.2.2.2])) q : xRes)) (xmX D cy A (Sum.elim (fun q => Sum.inl ((some (.int q.1)), [FP h0 h1 h2 h3 h4 h5 h6 h7 h8 h9, TB cy h2 a1 a2 a3 v1, SU cy a2 a4 v2, SL h5 d1 q.2.1, TB cy d1 d2 d3 d4 q.2.2.1, SU cy d3 d5 q.2.2.2.1, SL h6 e1 q.2.2.2.2.1, TB cy e1 e2 e3 e4 q.2.2.2.2.2.1, SU cy e3 e5 q.2.2.2.2.2.2])) (fun q => Sum.inr (q.1, [FP h0 h1 h2 h3 h4 h5 h6 h7 h8 h9, TB cy h2 a1 a2 a3 v1, SU cy a2 a4 v2, SL h5 d1 q.2.1, TB cy d1 d2 d3 d4 q.2.2.1, SU cy d3 d5 q.2.2.2.1, SL h6 e1 q.2.2.2.2.1, TB cy e1 e2 e3 e4 q.2.2.2.2.2.1, SU cy e3 e5 q.2.2.2.2.2.2])) q : xRes)) args s 1 6 A) 9 [] [] [FP h0 h1 h2 h3 h4 h5 h6 h7 h8 h9, TB cy h2 a1 a2 a3 v1, SU cy a2 a4 v2, SL h5 d1 v7, TB cy d1 d2 d3 d4 v8, SU cy d3 d5 v9, SL h6 e1 v10, TB cy e1 e2 e3 e4 v11, SU cy e3 e5 v12] := by
  unfold f_X7_save_b9 at hf
  have hf := Option.some.inj hf
  subst hf
  exact g_throwSW X hne hfl 3 26 (by decide) rfl rfl dX7_save_9 dX7_save_12 dX7_save_13 dX7_save_16 dX7_save_19 xw_3 ⟨(Nat.le_of_ble_eq_true rfl), (Nat.le_of_ble_eq_true rfl), (Nat.le_of_ble_eq_true rfl), (Nat.le_of_ble_eq_true rfl)⟩ ⟨(Nat.le_of_ble_eq_true rfl), (Nat.le_of_ble_eq_true rfl)⟩
def f_X7_save_b35 (v1 : TBv) (v2 : Fn) (v7 : Int32) (v8 : TBv) (v9 : Fn) (v10 : Int32) (v11 : TBv) (v12 : Fn) : Option ((Int32 × Int32 × TBv × Fn × Int32 × TBv × Fn) ⊕ (Nat × Int32 × TBv × Fn × Int32 × TBv × Fn)) :=
  (f_X4_copyFrom v11 v12 v1 v2).bind (fun q804 => (f_X3_count v2).bind (fun q805 => some (.inl (q805, v7, v8, v9, (1 : Int32), q804.1, q804.2))))
set_option maxRecDepth 100000 in
set_option maxHeartbeats 4000000 in
theorem j_X7_save_b35 {p : Program} {l : Launch} {e : Env} {s : State} {m : MethodId} {args : Array Value} {below : List Frame} {meth : Method} {c : Code} {A : Nat → Prop} {D : va_G} {cy : Nat → ClassId} {ad : (Nat → Nat) × (Nat → Nat)} (X : gK p s m args meth c A D cy ad cX7_save 3 RX7) (hr : meth.sig.returnType = (some .int)) (hne : ∀ x ∈ c.exceptionTable.toList, False) (hfl : l.stackTraces = false) {h0 h1 h2 h3 h4 h5 h6 h7 h8 h9 a1 a2 a3 a4 d1 d2 d3 d4 d5 e1 e2 e3 e4 e5 : Nat} (v1 : TBv) (v2 : Fn) (v7 : Int32) (v8 : TBv) (v9 : Fn) (v10 : Int32) (v11 : TBv) (v12 : Fn) {q : (Int32 × Int32 × TBv × Fn × Int32 × TBv × Fn) ⊕ (Nat × Int32 × TBv × Fn × Int32 × TBv × Fn)} (hf : f_X7_save_b35 v1 v2 v7 v8 v9 v10 v11 v12 = some q) : GW p l e rmX7_save s m args below meth c A D 3 0 0 (vx_MQ below (xmQ D cy A (Sum.elim (fun q => Sum.inl ((some (.int q.1)), [FP h0 h1 h2 h3 h4 h5 h6 h7 h8 h9, TB cy h2 a1 a2 a3 v1, SU cy a2 a4 v2, SL h5 d1 q.2.1, TB cy d1 d2 d3 d4 q.2.2.1, SU cy d3 d5 q.2.2.2.1, SL h6 e1 q.2.2.2.2.1, TB cy e1 e2 e3 e4 q.2.2.2.2.2.1, SU cy e3 e5 q.2.2.2.2.2.2])) (fun q => Sum.inr (q.1, [FP h0 h1 h2 h3 h4 h5 h6 h7 h8 h9, TB cy h2 a1 a2 a3 v1, SU cy a2 a4 v2, SL h5 d1 q.2.1, TB cy d1 d2 d3 d4 q.2.2.1, SU cy d3 d5 q.2.2.2.1, SL h6 e1 q.2.2.2.2.1, TB cy e1 e2 e3 e4 q.2.2.2.2.2.1, SU cy e3 e5 q.2.2.2.2.2.2])) q : xRes)) (xmX D cy A (Sum.elim (fun q => Sum.inl ((some (.int q.1)), [FP h0 h1 h2 h3 h4 h5 h6 h7 h8 h9, TB cy h2 a1 a2 a3 v1, SU cy a2 a4 v2, SL h5 d1 q.2.1, TB cy d1 d2 d3 d4 q.2.2.1, SU cy d3 d5 q.2.2.2.1, SL h6 e1 q.2.2.2.2.1, TB cy e1 e2 e3 e4 q.2.2.2.2.2.1, SU cy e3 e5 q.2.2.2.2.2.2])) (fun q => Sum.inr (q.1, [FP h0 h1 h2 h3 h4 h5 h6 h7 h8 h9, TB cy h2 a1 a2 a3 v1, SU cy a2 a4 v2, SL h5 d1 q.2.1, TB cy d1 d2 d3 d4 q.2.2.1, SU cy d3 d5 q.2.2.2.1, SL h6 e1 q.2.2.2.2.1, TB cy e1 e2 e3 e4 q.2.2.2.2.2.1, SU cy e3 e5 q.2.2.2.2.2.2])) q : xRes)) args s 1 6 A) 35 [(0, .ref h0)] [.ref h6] [FP h0 h1 h2 h3 h4 h5 h6 h7 h8 h9, TB cy h2 a1 a2 a3 v1, SU cy a2 a4 v2, SL h5 d1 v7, TB cy d1 d2 d3 d4 v8, SU cy d3 d5 v9, SL h6 e1 v10, TB cy e1 e2 e3 e4 v11, SU cy e3 e5 v12] := by
  unfold f_X7_save_b35 at hf
  refine g_astore_n (lv' := [(0, .ref h0), (2, .ref h6)]) X dX7_save_35 [1, 0] rfl (Nat.le_of_ble_eq_true rfl) rfl ?_
  refine g_aload_n X dX7_save_36 1 rfl rfl ?_
  refine g_get X dX7_save_37 ck_X2 6 0 0 rfl rfl (Nat.le_of_ble_eq_true rfl) lkf_X7_310 rfl ?_
  refine g_aload_n X dX7_save_40 0 rfl rfl ?_
  refine g_get X dX7_save_41 ck_X7 0 0 1 rfl rfl (Nat.le_of_ble_eq_true rfl) lkf_X7_19 rfl ?_
  obtain ⟨q804, hq804, hf⟩ := obind hf
  refine g_callV (gs' := [FP h0 h1 h2 h3 h4 h5 h6 h7 h8 h9, TB cy h2 a1 a2 a3 v1, SU cy a2 a4 v2, SL h5 d1 v7, TB cy d1 d2 d3 d4 v8, SU cy d3 d5 v9, SL h6 e1 v10, TB cy e1 e2 e3 e4 q804.1, SU cy e3 e5 q804.2]) (rest := []) X dX7_save_44 (c_X4_copyFrom l D cy ad e1 e2 e3 e4 e5 h2 a1 a2 a3 a4 v11 v12 v1 v2 hq804) mf_X4_copyFrom mv_X4_copyFrom lkm_X7_290 ⟨(Nat.le_of_ble_eq_true rfl), (Nat.le_of_ble_eq_true rfl), (Nat.le_of_ble_eq_true rfl), (Nat.le_of_ble_eq_true rfl)⟩ 7 0 rfl rfl rfl rfl [7, 8, 1, 2, 0, 3, 4, 5, 6] _ (by decide : [7, 8, 1, 2, 0, 3, 4, 5, 6].Perm (List.range 9)) rfl (by decide : [7, 8, 1, 2, 0, 3, 4, 5, 6].Perm (List.range 9)) rfl (Nat.le_of_ble_eq_true rfl) rfl ?_
  refine g_aload_n X dX7_save_47 1 rfl rfl ?_
  refine g_iconst X (1 : Int32) dX7_save_48 (by decide) ?_
  refine g_put (gs' := [FP h0 h1 h2 h3 h4 h5 h6 h7 h8 h9, TB cy h2 a1 a2 a3 v1, SU cy a2 a4 v2, SL h5 d1 v7, TB cy d1 d2 d3 d4 v8, SU cy d3 d5 v9, SL h6 e1 (1 : Int32), TB cy e1 e2 e3 e4 q804.1, SU cy e3 e5 q804.2]) X dX7_save_49 ck_X2 ct_X2 6 0 1 rfl rfl (Nat.le_of_ble_eq_true rfl) lkf_X7_113 rfl rfl rfl (Nat.le_of_ble_eq_true rfl) rfl ?_
  refine g_aload_n X dX7_save_52 0 rfl rfl ?_
  refine g_get X dX7_save_53 ck_X7 0 0 1 rfl rfl (Nat.le_of_ble_eq_true rfl) lkf_X7_19 rfl ?_
  refine g_get X dX7_save_56 ck_X4 1 0 8 rfl rfl (Nat.le_of_ble_eq_true rfl) lkf_X7_149 rfl ?_
  obtain ⟨q805, hq805, hf⟩ := obind hf
  refine g_callV (gs' := [FP h0 h1 h2 h3 h4 h5 h6 h7 h8 h9, TB cy h2 a1 a2 a3 v1, SU cy a2 a4 v2, SL h5 d1 v7, TB cy d1 d2 d3 d4 v8, SU cy d3 d5 v9, SL h6 e1 (1 : Int32), TB cy e1 e2 e3 e4 q804.1, SU cy e3 e5 q804.2]) (rest := []) X dX7_save_59 (c_X3_count l D cy ad a2 a4 v2 hq805) mf_X3_count mv_X3_count lkm_X7_153 ⟨(Nat.le_of_ble_eq_true rfl), (Nat.le_of_ble_eq_true rfl), (Nat.le_of_ble_eq_true rfl), (Nat.le_of_ble_eq_true rfl)⟩ 2 0 rfl rfl rfl rfl [2, 0, 1, 3, 4, 5, 6, 7, 8] _ (by decide : [2, 0, 1, 3, 4, 5, 6, 7, 8].Perm (List.range 9)) rfl (by decide : [2, 0, 1, 3, 4, 5, 6, 7, 8].Perm (List.range 9)) rfl (Nat.le_of_ble_eq_true rfl) rfl ?_
  have hf := Option.some.inj hf
  subst hf
  exact g_xret (Nat.le_of_ble_eq_true rfl) (Nat.le_of_ble_eq_true rfl) (g_iret X hr dX7_save_62)
def f_X7_save_b35v1 (v1 : TBv) (v2 : Fn) (v7 : Int32) (v8 : TBv) (v9 : Fn) (v10 : Int32) (v11 : TBv) (v12 : Fn) : Option ((Int32 × Int32 × TBv × Fn × Int32 × TBv × Fn) ⊕ (Nat × Int32 × TBv × Fn × Int32 × TBv × Fn)) :=
  (f_X4_copyFrom v8 v9 v1 v2).bind (fun q806 => (f_X3_count v2).bind (fun q807 => some (.inl (q807, (1 : Int32), q806.1, q806.2, v10, v11, v12))))
set_option maxRecDepth 100000 in
set_option maxHeartbeats 4000000 in
theorem j_X7_save_b35v1 {p : Program} {l : Launch} {e : Env} {s : State} {m : MethodId} {args : Array Value} {below : List Frame} {meth : Method} {c : Code} {A : Nat → Prop} {D : va_G} {cy : Nat → ClassId} {ad : (Nat → Nat) × (Nat → Nat)} (X : gK p s m args meth c A D cy ad cX7_save 3 RX7) (hr : meth.sig.returnType = (some .int)) (hne : ∀ x ∈ c.exceptionTable.toList, False) (hfl : l.stackTraces = false) {h0 h1 h2 h3 h4 h5 h6 h7 h8 h9 a1 a2 a3 a4 d1 d2 d3 d4 d5 e1 e2 e3 e4 e5 : Nat} (v1 : TBv) (v2 : Fn) (v7 : Int32) (v8 : TBv) (v9 : Fn) (v10 : Int32) (v11 : TBv) (v12 : Fn) {q : (Int32 × Int32 × TBv × Fn × Int32 × TBv × Fn) ⊕ (Nat × Int32 × TBv × Fn × Int32 × TBv × Fn)} (hf : f_X7_save_b35v1 v1 v2 v7 v8 v9 v10 v11 v12 = some q) : GW p l e rmX7_save s m args below meth c A D 3 0 0 (vx_MQ below (xmQ D cy A (Sum.elim (fun q => Sum.inl ((some (.int q.1)), [FP h0 h1 h2 h3 h4 h5 h6 h7 h8 h9, TB cy h2 a1 a2 a3 v1, SU cy a2 a4 v2, SL h5 d1 q.2.1, TB cy d1 d2 d3 d4 q.2.2.1, SU cy d3 d5 q.2.2.2.1, SL h6 e1 q.2.2.2.2.1, TB cy e1 e2 e3 e4 q.2.2.2.2.2.1, SU cy e3 e5 q.2.2.2.2.2.2])) (fun q => Sum.inr (q.1, [FP h0 h1 h2 h3 h4 h5 h6 h7 h8 h9, TB cy h2 a1 a2 a3 v1, SU cy a2 a4 v2, SL h5 d1 q.2.1, TB cy d1 d2 d3 d4 q.2.2.1, SU cy d3 d5 q.2.2.2.1, SL h6 e1 q.2.2.2.2.1, TB cy e1 e2 e3 e4 q.2.2.2.2.2.1, SU cy e3 e5 q.2.2.2.2.2.2])) q : xRes)) (xmX D cy A (Sum.elim (fun q => Sum.inl ((some (.int q.1)), [FP h0 h1 h2 h3 h4 h5 h6 h7 h8 h9, TB cy h2 a1 a2 a3 v1, SU cy a2 a4 v2, SL h5 d1 q.2.1, TB cy d1 d2 d3 d4 q.2.2.1, SU cy d3 d5 q.2.2.2.1, SL h6 e1 q.2.2.2.2.1, TB cy e1 e2 e3 e4 q.2.2.2.2.2.1, SU cy e3 e5 q.2.2.2.2.2.2])) (fun q => Sum.inr (q.1, [FP h0 h1 h2 h3 h4 h5 h6 h7 h8 h9, TB cy h2 a1 a2 a3 v1, SU cy a2 a4 v2, SL h5 d1 q.2.1, TB cy d1 d2 d3 d4 q.2.2.1, SU cy d3 d5 q.2.2.2.1, SL h6 e1 q.2.2.2.2.1, TB cy e1 e2 e3 e4 q.2.2.2.2.2.1, SU cy e3 e5 q.2.2.2.2.2.2])) q : xRes)) args s 1 6 A) 35 [(0, .ref h0)] [.ref h5] [FP h0 h1 h2 h3 h4 h5 h6 h7 h8 h9, TB cy h2 a1 a2 a3 v1, SU cy a2 a4 v2, SL h5 d1 v7, TB cy d1 d2 d3 d4 v8, SU cy d3 d5 v9, SL h6 e1 v10, TB cy e1 e2 e3 e4 v11, SU cy e3 e5 v12] := by
  unfold f_X7_save_b35v1 at hf
  refine g_astore_n (lv' := [(0, .ref h0), (2, .ref h5)]) X dX7_save_35 [1, 0] rfl (Nat.le_of_ble_eq_true rfl) rfl ?_
  refine g_aload_n X dX7_save_36 1 rfl rfl ?_
  refine g_get X dX7_save_37 ck_X2 3 0 0 rfl rfl (Nat.le_of_ble_eq_true rfl) lkf_X7_310 rfl ?_
  refine g_aload_n X dX7_save_40 0 rfl rfl ?_
  refine g_get X dX7_save_41 ck_X7 0 0 1 rfl rfl (Nat.le_of_ble_eq_true rfl) lkf_X7_19 rfl ?_
  obtain ⟨q806, hq806, hf⟩ := obind hf
  refine g_callV (gs' := [FP h0 h1 h2 h3 h4 h5 h6 h7 h8 h9, TB cy h2 a1 a2 a3 v1, SU cy a2 a4 v2, SL h5 d1 v7, TB cy d1 d2 d3 d4 q806.1, SU cy d3 d5 q806.2, SL h6 e1 v10, TB cy e1 e2 e3 e4 v11, SU cy e3 e5 v12]) (rest := []) X dX7_save_44 (c_X4_copyFrom l D cy ad d1 d2 d3 d4 d5 h2 a1 a2 a3 a4 v8 v9 v1 v2 hq806) mf_X4_copyFrom mv_X4_copyFrom lkm_X7_290 ⟨(Nat.le_of_ble_eq_true rfl), (Nat.le_of_ble_eq_true rfl), (Nat.le_of_ble_eq_true rfl), (Nat.le_of_ble_eq_true rfl)⟩ 4 0 rfl rfl rfl rfl [4, 5, 1, 2, 0, 3, 6, 7, 8] _ (by decide : [4, 5, 1, 2, 0, 3, 6, 7, 8].Perm (List.range 9)) rfl (by decide : [4, 5, 1, 2, 0, 3, 6, 7, 8].Perm (List.range 9)) rfl (Nat.le_of_ble_eq_true rfl) rfl ?_
  refine g_aload_n X dX7_save_47 1 rfl rfl ?_
  refine g_iconst X (1 : Int32) dX7_save_48 (by decide) ?_
  refine g_put (gs' := [FP h0 h1 h2 h3 h4 h5 h6 h7 h8 h9, TB cy h2 a1 a2 a3 v1, SU cy a2 a4 v2, SL h5 d1 (1 : Int32), TB cy d1 d2 d3 d4 q806.1, SU cy d3 d5 q806.2, SL h6 e1 v10, TB cy e1 e2 e3 e4 v11, SU cy e3 e5 v12]) X dX7_save_49 ck_X2 ct_X2 3 0 1 rfl rfl (Nat.le_of_ble_eq_true rfl) lkf_X7_113 rfl rfl rfl (Nat.le_of_ble_eq_true rfl) rfl ?_
  refine g_aload_n X dX7_save_52 0 rfl rfl ?_
  refine g_get X dX7_save_53 ck_X7 0 0 1 rfl rfl (Nat.le_of_ble_eq_true rfl) lkf_X7_19 rfl ?_
  refine g_get X dX7_save_56 ck_X4 1 0 8 rfl rfl (Nat.le_of_ble_eq_true rfl) lkf_X7_149 rfl ?_
  obtain ⟨q807, hq807, hf⟩ := obind hf
  refine g_callV (gs' := [FP h0 h1 h2 h3 h4 h5 h6 h7 h8 h9, TB cy h2 a1 a2 a3 v1, SU cy a2 a4 v2, SL h5 d1 (1 : Int32), TB cy d1 d2 d3 d4 q806.1, SU cy d3 d5 q806.2, SL h6 e1 v10, TB cy e1 e2 e3 e4 v11, SU cy e3 e5 v12]) (rest := []) X dX7_save_59 (c_X3_count l D cy ad a2 a4 v2 hq807) mf_X3_count mv_X3_count lkm_X7_153 ⟨(Nat.le_of_ble_eq_true rfl), (Nat.le_of_ble_eq_true rfl), (Nat.le_of_ble_eq_true rfl), (Nat.le_of_ble_eq_true rfl)⟩ 2 0 rfl rfl rfl rfl [2, 0, 1, 3, 4, 5, 6, 7, 8] _ (by decide : [2, 0, 1, 3, 4, 5, 6, 7, 8].Perm (List.range 9)) rfl (by decide : [2, 0, 1, 3, 4, 5, 6, 7, 8].Perm (List.range 9)) rfl (Nat.le_of_ble_eq_true rfl) rfl ?_
  have hf := Option.some.inj hf
  subst hf
  exact g_xret (Nat.le_of_ble_eq_true rfl) (Nat.le_of_ble_eq_true rfl) (g_iret X hr dX7_save_62)
def f_X7_save (v1 : TBv) (v2 : Fn) (v7 : Int32) (v8 : TBv) (v9 : Fn) (v10 : Int32) (v11 : TBv) (v12 : Fn) (p1 : Int32) : Option ((Int32 × Int32 × TBv × Fn × Int32 × TBv × Fn) ⊕ (Nat × Int32 × TBv × Fn × Int32 × TBv × Fn)) :=
  if p1 < 0 then f_X7_save_b9 v1 v2 v7 v8 v9 v10 v11 v12 else if p1 < (2 : Int32) then if p1 = 0 then f_X7_save_b35v1 v1 v2 v7 v8 v9 v10 v11 v12 else f_X7_save_b35 v1 v2 v7 v8 v9 v10 v11 v12 else f_X7_save_b9 v1 v2 v7 v8 v9 v10 v11 v12
set_option maxRecDepth 100000 in
set_option maxHeartbeats 4000000 in
theorem c_X7_save (l : Launch) (D : va_G) (cy : Nat → ClassId) (ad : (Nat → Nat) × (Nat → Nat)) (h0 : Nat) (h1 : Nat) (h2 : Nat) (h3 : Nat) (h4 : Nat) (h5 : Nat) (h6 : Nat) (h7 : Nat) (h8 : Nat) (h9 : Nat) (a1 : Nat) (a2 : Nat) (a3 : Nat) (a4 : Nat) (d1 : Nat) (d2 : Nat) (d3 : Nat) (d4 : Nat) (d5 : Nat) (e1 : Nat) (e2 : Nat) (e3 : Nat) (e4 : Nat) (e5 : Nat) (v1 : TBv) (v2 : Fn) (v7 : Int32) (v8 : TBv) (v9 : Fn) (v10 : Int32) (v11 : TBv) (v12 : Fn) (p1 : Int32) (hfl : l.stackTraces = false) {q : (Int32 × Int32 × TBv × Fn × Int32 × TBv × Fn) ⊕ (Nat × Int32 × TBv × Fn × Int32 × TBv × Fn)} (hf : f_X7_save v1 v2 v7 v8 v9 v10 v11 v12 p1 = some q) : XM l yX7_save cX7_save 3 (some .int) rmX7_save D cy ad [.ref h0, .int p1] [FP h0 h1 h2 h3 h4 h5 h6 h7 h8 h9, TB cy h2 a1 a2 a3 v1, SU cy a2 a4 v2, SL h5 d1 v7, TB cy d1 d2 d3 d4 v8, SU cy d3 d5 v9, SL h6 e1 v10, TB cy e1 e2 e3 e4 v11, SU cy e3 e5 v12] (Sum.elim (fun q => Sum.inl ((some (.int q.1)), [FP h0 h1 h2 h3 h4 h5 h6 h7 h8 h9, TB cy h2 a1 a2 a3 v1, SU cy a2 a4 v2, SL h5 d1 q.2.1, TB cy d1 d2 d3 d4 q.2.2.1, SU cy d3 d5 q.2.2.2.1, SL h6 e1 q.2.2.2.2.1, TB cy e1 e2 e3 e4 q.2.2.2.2.2.1, SU cy e3 e5 q.2.2.2.2.2.2])) (fun q => Sum.inr (q.1, [FP h0 h1 h2 h3 h4 h5 h6 h7 h8 h9, TB cy h2 a1 a2 a3 v1, SU cy a2 a4 v2, SL h5 d1 q.2.1, TB cy d1 d2 d3 d4 q.2.2.1, SU cy d3 d5 q.2.2.2.1, SL h6 e1 q.2.2.2.2.1, TB cy e1 e2 e3 e4 q.2.2.2.2.2.1, SU cy e3 e5 q.2.2.2.2.2.2])) q : xRes) := by
  refine xm_of (lv0 := [(0, .ref h0), (1, .int p1)]) (by decide) (Nat.le_of_ble_eq_true rfl) rfl ?_
  intro p e s m args below meth c A X hr hne
  have X : gK p s m args meth c A D cy ad cX7_save 3 RX7 := X
  unfold f_X7_save at hf
  refine g_iload_n X dX7_save_0 1 rfl rfl ?_
  refine g_if_lt X 9 dX7_save_1 (by decide) (fun c810 => ?_) (fun c810 => ?_)
  · have hf := opos c810 hf
    refine g_sub [] (lv' := []) rfl ?_
    exact j_X7_save_b9 X hr hne hfl v1 v2 v7 v8 v9 v10 v11 v12 hf
  · have hf := oneg c810 hf
    refine g_iload_n X dX7_save_4 1 rfl rfl ?_
    refine g_iconst X (2 : Int32) dX7_save_5 (by decide) ?_
    refine g_icmp_lt X 20 dX7_save_6 (by decide) (fun c809 => ?_) (fun c809 => ?_)
    · have hf := opos c809 hf
      refine g_iload_n X dX7_save_20 1 rfl rfl ?_
      refine g_if_ne X 31 dX7_save_21 (by decide) (fun c808 => ?_) (fun c808 => ?_)
      · have hf := oneg c808 hf
        refine g_aload_n X dX7_save_31 0 rfl rfl ?_
        refine g_get X dX7_save_32 ck_X7 0 0 5 rfl rfl (Nat.le_of_ble_eq_true rfl) lkf_X7_40 rfl ?_
        refine g_sub [0] (lv' := [(0, .ref h0)]) rfl ?_
        exact j_X7_save_b35 X hr hne hfl v1 v2 v7 v8 v9 v10 v11 v12 hf
      · have hf := opos c808 hf
        refine g_aload_n X dX7_save_24 0 rfl rfl ?_
        refine g_get X dX7_save_25 ck_X7 0 0 4 rfl rfl (Nat.le_of_ble_eq_true rfl) lkf_X7_36 rfl ?_
        refine g_goto X 35 dX7_save_28 (by decide) ?_
        refine g_sub [0] (lv' := [(0, .ref h0)]) rfl ?_
        exact j_X7_save_b35v1 X hr hne hfl v1 v2 v7 v8 v9 v10 v11 v12 hf
    · have hf := oneg c809 hf
      refine g_sub [] (lv' := []) rfl ?_
      exact j_X7_save_b9 X hr hne hfl v1 v2 v7 v8 v9 v10 v11 v12 hf
abbrev rmX7_restore : Room := ({ frames := 6, cells := 1, slots := 6, locals := 90 } : Room)
def f_X7_restore_b9 (v1 : TBv) (v2 : Fn) (vh : HIv) (v7 : Int32) (v8 : TBv) (v9 : Fn) (v10 : Int32) (v11 : TBv) (v12 : Fn) : Option ((Int32 × TBv × Fn × HIv) ⊕ (Nat × TBv × Fn × HIv)) :=
  some (.inr (3, v1, v2, vh))
set_option maxRecDepth 100000 in
set_option maxHeartbeats 4000000 in
theorem j_X7_restore_b9 {p : Program} {l : Launch} {e : Env} {s : State} {m : MethodId} {args : Array Value} {below : List Frame} {meth : Method} {c : Code} {A : Nat → Prop} {D : va_G} {cy : Nat → ClassId} {ad : (Nat → Nat) × (Nat → Nat)} (X : gK p s m args meth c A D cy ad cX7_restore 3 RX7) (hr : meth.sig.returnType = (some .int)) (hne : ∀ x ∈ c.exceptionTable.toList, False) (hfl : l.stackTraces = false) {h0 h1 h2 h3 h4 h5 h6 h7 h8 h9 a1 a2 a3 a4 r1 d1 d2 d3 d4 d5 e1 e2 e3 e4 e5 : Nat} (v1 : TBv) (v2 : Fn) (vh : HIv) (v7 : Int32) (v8 : TBv) (v9 : Fn) (v10 : Int32) (v11 : TBv) (v12 : Fn) {q : (Int32 × TBv × Fn × HIv) ⊕ (Nat × TBv × Fn × HIv)} (hf : f_X7_restore_b9 v1 v2 vh v7 v8 v9 v10 v11 v12 = some q) : GW p l e rmX7_restore s m args below meth c A D 3 0 0 (vx_MQ below (xmQ D cy A (Sum.elim (fun q => Sum.inl ((some (.int q.1)), [FP h0 h1 h2 h3 h4 h5 h6 h7 h8 h9, TB cy h2 a1 a2 a3 q.2.1, SU cy a2 a4 q.2.2.1, HI h4 r1 q.2.2.2, SL h5 d1 v7, TB cy d1 d2 d3 d4 v8, SU cy d3 d5 v9, SL h6 e1 v10, TB cy e1 e2 e3 e4 v11, SU cy e3 e5 v12])) (fun q => Sum.inr (q.1, [FP h0 h1 h2 h3 h4 h5 h6 h7 h8 h9, TB cy h2 a1 a2 a3 q.2.1, SU cy a2 a4 q.2.2.1, HI h4 r1 q.2.2.2, SL h5 d1 v7, TB cy d1 d2 d3 d4 v8, SU cy d3 d5 v9, SL h6 e1 v10, TB cy e1 e2 e3 e4 v11, SU cy e3 e5 v12])) q : xRes)) (xmX D cy A (Sum.elim (fun q => Sum.inl ((some (.int q.1)), [FP h0 h1 h2 h3 h4 h5 h6 h7 h8 h9, TB cy h2 a1 a2 a3 q.2.1, SU cy a2 a4 q.2.2.1, HI h4 r1 q.2.2.2, SL h5 d1 v7, TB cy d1 d2 d3 d4 v8, SU cy d3 d5 v9, SL h6 e1 v10, TB cy e1 e2 e3 e4 v11, SU cy e3 e5 v12])) (fun q => Sum.inr (q.1, [FP h0 h1 h2 h3 h4 h5 h6 h7 h8 h9, TB cy h2 a1 a2 a3 q.2.1, SU cy a2 a4 q.2.2.1, HI h4 r1 q.2.2.2, SL h5 d1 v7, TB cy d1 d2 d3 d4 v8, SU cy d3 d5 v9, SL h6 e1 v10, TB cy e1 e2 e3 e4 v11, SU cy e3 e5 v12])) q : xRes)) args s 1 6 A) 9 [] [] [FP h0 h1 h2 h3 h4 h5 h6 h7 h8 h9, TB cy h2 a1 a2 a3 v1, SU cy a2 a4 v2, HI h4 r1 vh, SL h5 d1 v7, TB cy d1 d2 d3 d4 v8, SU cy d3 d5 v9, SL h6 e1 v10, TB cy e1 e2 e3 e4 v11, SU cy e3 e5 v12] := by
  unfold f_X7_restore_b9 at hf
  have hf := Option.some.inj hf
  subst hf
  exact g_throwSW X hne hfl 3 26 (by decide) rfl rfl dX7_restore_9 dX7_restore_12 dX7_restore_13 dX7_restore_16 dX7_restore_19 xw_3 ⟨(Nat.le_of_ble_eq_true rfl), (Nat.le_of_ble_eq_true rfl), (Nat.le_of_ble_eq_true rfl), (Nat.le_of_ble_eq_true rfl)⟩ ⟨(Nat.le_of_ble_eq_true rfl), (Nat.le_of_ble_eq_true rfl)⟩
def f_X7_restore_b35 (v1 : TBv) (v2 : Fn) (vh : HIv) (v7 : Int32) (v8 : TBv) (v9 : Fn) (v10 : Int32) (v11 : TBv) (v12 : Fn) : Option ((Int32 × TBv × Fn × HIv) ⊕ (Nat × TBv × Fn × HIv)) :=
  if v10 = 0 then some (.inr (2, v1, v2, vh)) else (f_X4_copyFrom v1 v2 v11 v12).bind (fun q819 => (f_X0_clear vh).bind (fun q820 => (f_X3_count q819.2).bind (fun q821 => some (.inl (q821, q819.1, q819.2, q820)))))
set_option maxRecDepth 100000 in
set_option maxHeartbeats 4000000 in
theorem j_X7_restore_b35 {p : Program} {l : Launch} {e : Env} {s : State} {m : MethodId} {args : Array Value} {below : List Frame} {meth : Method} {c : Code} {A : Nat → Prop} {D : va_G} {cy : Nat → ClassId} {ad : (Nat → Nat) × (Nat → Nat)} (X : gK p s m args meth c A D cy ad cX7_restore 3 RX7) (hr : meth.sig.returnType = (some .int)) (hne : ∀ x ∈ c.exceptionTable.toList, False) (hfl : l.stackTraces = false) {h0 h1 h2 h3 h4 h5 h6 h7 h8 h9 a1 a2 a3 a4 r1 d1 d2 d3 d4 d5 e1 e2 e3 e4 e5 : Nat} (v1 : TBv) (v2 : Fn) (vh : HIv) (v7 : Int32) (v8 : TBv) (v9 : Fn) (v10 : Int32) (v11 : TBv) (v12 : Fn) {q : (Int32 × TBv × Fn × HIv) ⊕ (Nat × TBv × Fn × HIv)} (hf : f_X7_restore_b35 v1 v2 vh v7 v8 v9 v10 v11 v12 = some q) : GW p l e rmX7_restore s m args below meth c A D 3 0 0 (vx_MQ below (xmQ D cy A (Sum.elim (fun q => Sum.inl ((some (.int q.1)), [FP h0 h1 h2 h3 h4 h5 h6 h7 h8 h9, TB cy h2 a1 a2 a3 q.2.1, SU cy a2 a4 q.2.2.1, HI h4 r1 q.2.2.2, SL h5 d1 v7, TB cy d1 d2 d3 d4 v8, SU cy d3 d5 v9, SL h6 e1 v10, TB cy e1 e2 e3 e4 v11, SU cy e3 e5 v12])) (fun q => Sum.inr (q.1, [FP h0 h1 h2 h3 h4 h5 h6 h7 h8 h9, TB cy h2 a1 a2 a3 q.2.1, SU cy a2 a4 q.2.2.1, HI h4 r1 q.2.2.2, SL h5 d1 v7, TB cy d1 d2 d3 d4 v8, SU cy d3 d5 v9, SL h6 e1 v10, TB cy e1 e2 e3 e4 v11, SU cy e3 e5 v12])) q : xRes)) (xmX D cy A (Sum.elim (fun q => Sum.inl ((some (.int q.1)), [FP h0 h1 h2 h3 h4 h5 h6 h7 h8 h9, TB cy h2 a1 a2 a3 q.2.1, SU cy a2 a4 q.2.2.1, HI h4 r1 q.2.2.2, SL h5 d1 v7, TB cy d1 d2 d3 d4 v8, SU cy d3 d5 v9, SL h6 e1 v10, TB cy e1 e2 e3 e4 v11, SU cy e3 e5 v12])) (fun q => Sum.inr (q.1, [FP h0 h1 h2 h3 h4 h5 h6 h7 h8 h9, TB cy h2 a1 a2 a3 q.2.1, SU cy a2 a4 q.2.2.1, HI h4 r1 q.2.2.2, SL h5 d1 v7, TB cy d1 d2 d3 d4 v8, SU cy d3 d5 v9, SL h6 e1 v10, TB cy e1 e2 e3 e4 v11, SU cy e3 e5 v12])) q : xRes)) args s 1 6 A) 35 [(0, .ref h0)] [.ref h6] [FP h0 h1 h2 h3 h4 h5 h6 h7 h8 h9, TB cy h2 a1 a2 a3 v1, SU cy a2 a4 v2, HI h4 r1 vh, SL h5 d1 v7, TB cy d1 d2 d3 d4 v8, SU cy d3 d5 v9, SL h6 e1 v10, TB cy e1 e2 e3 e4 v11, SU cy e3 e5 v12] := by
  unfold f_X7_restore_b35 at hf
  refine g_astore_n (lv' := [(0, .ref h0), (2, .ref h6)]) X dX7_restore_35 [1, 0] rfl (Nat.le_of_ble_eq_true rfl) rfl ?_
  refine g_aload_n X dX7_restore_36 1 rfl rfl ?_
  refine g_get X dX7_restore_37 ck_X2 7 0 1 rfl rfl (Nat.le_of_ble_eq_true rfl) lkf_X7_113 rfl ?_
  refine g_if_ne X 54 dX7_restore_40 (by decide) (fun c822 => ?_) (fun c822 => ?_)
  · have hf := oneg c822 hf
    refine g_aload_n X dX7_restore_54 0 rfl rfl ?_
    refine g_get X dX7_restore_55 ck_X7 0 0 1 rfl rfl (Nat.le_of_ble_eq_true rfl) lkf_X7_19 rfl ?_
    refine g_aload_n X dX7_restore_58 1 rfl rfl ?_
    refine g_get X dX7_restore_59 ck_X2 7 0 0 rfl rfl (Nat.le_of_ble_eq_true rfl) lkf_X7_310 rfl ?_
    obtain ⟨q819, hq819, hf⟩ := obind hf
    refine g_callV (gs' := [FP h0 h1 h2 h3 h4 h5 h6 h7 h8 h9, TB cy h2 a1 a2 a3 q819.1, SU cy a2 a4 q819.2, HI h4 r1 vh, SL h5 d1 v7, TB cy d1 d2 d3 d4 v8, SU cy d3 d5 v9, SL h6 e1 v10, TB cy e1 e2 e3 e4 v11, SU cy e3 e5 v12]) (rest := []) X dX7_restore_62 (c_X4_copyFrom l D cy ad h2 a1 a2 a3 a4 e1 e2 e3 e4 e5 v1 v2 v11 v12 hq819) mf_X4_copyFrom mv_X4_copyFrom lkm_X7_290 ⟨(Nat.le_of_ble_eq_true rfl), (Nat.le_of_ble_eq_true rfl), (Nat.le_of_ble_eq_true rfl), (Nat.le_of_ble_eq_true rfl)⟩ 1 0 rfl rfl rfl rfl [1, 2, 8, 9, 0, 3, 4, 5, 6, 7] _ (by decide : [1, 2, 8, 9, 0, 3, 4, 5, 6, 7].Perm (List.range 10)) rfl (by decide : [1, 2, 8, 9, 0, 3, 4, 5, 6, 7].Perm (List.range 10)) rfl (Nat.le_of_ble_eq_true rfl) rfl ?_
    refine g_aload_n X dX7_restore_65 0 rfl rfl ?_
    refine g_get X dX7_restore_66 ck_X7 0 0 3 rfl rfl (Nat.le_of_ble_eq_true rfl) lkf_X7_29 rfl ?_
    obtain ⟨q820, hq820, hf⟩ := obind hf
    refine g_callV (gs' := [FP h0 h1 h2 h3 h4 h5 h6 h7 h8 h9, TB cy h2 a1 a2 a3 q819.1, SU cy a2 a4 q819.2, HI h4 r1 q820, SL h5 d1 v7, TB cy d1 d2 d3 d4 v8, SU cy d3 d5 v9, SL h6 e1 v10, TB cy e1 e2 e3 e4 v11, SU cy e3 e5 v12]) (rest := []) X dX7_restore_69 (c_X0_clear l D cy ad h4 r1 vh hq820) mf_X0_clear mv_X0_clear lkm_X7_110 ⟨(Nat.le_of_ble_eq_true rfl), (Nat.le_of_ble_eq_true rfl), (Nat.le_of_ble_eq_true rfl), (Nat.le_of_ble_eq_true rfl)⟩ 3 0 rfl rfl rfl rfl [3, 0, 1, 2, 4, 5, 6, 7, 8, 9] _ (by decide : [3, 0, 1, 2, 4, 5, 6, 7, 8, 9].Perm (List.range 10)) rfl (by decide : [3, 0, 1, 2, 4, 5, 6, 7, 8, 9].Perm (List.range 10)) rfl (Nat.le_of_ble_eq_true rfl) rfl ?_
    refine g_aload_n X dX7_restore_72 0 rfl rfl ?_
    refine g_get X dX7_restore_73 ck_X7 0 0 1 rfl rfl (Nat.le_of_ble_eq_true rfl) lkf_X7_19 rfl ?_
    refine g_get X dX7_restore_76 ck_X4 1 0 8 rfl rfl (Nat.le_of_ble_eq_true rfl) lkf_X7_149 rfl ?_
    obtain ⟨q821, hq821, hf⟩ := obind hf
    refine g_callV (gs' := [FP h0 h1 h2 h3 h4 h5 h6 h7 h8 h9, TB cy h2 a1 a2 a3 q819.1, SU cy a2 a4 q819.2, HI h4 r1 q820, SL h5 d1 v7, TB cy d1 d2 d3 d4 v8, SU cy d3 d5 v9, SL h6 e1 v10, TB cy e1 e2 e3 e4 v11, SU cy e3 e5 v12]) (rest := []) X dX7_restore_79 (c_X3_count l D cy ad a2 a4 q819.2 hq821) mf_X3_count mv_X3_count lkm_X7_153 ⟨(Nat.le_of_ble_eq_true rfl), (Nat.le_of_ble_eq_true rfl), (Nat.le_of_ble_eq_true rfl), (Nat.le_of_ble_eq_true rfl)⟩ 2 0 rfl rfl rfl rfl [2, 0, 1, 3, 4, 5, 6, 7, 8, 9] _ (by decide : [2, 0, 1, 3, 4, 5, 6, 7, 8, 9].Perm (List.range 10)) rfl (by decide : [2, 0, 1, 3, 4, 5, 6, 7, 8, 9].Perm (List.range 10)) rfl (Nat.le_of_ble_eq_true rfl) rfl ?_
    have hf := Option.some.inj hf
    subst hf
    exact g_xret (Nat.le_of_ble_eq_true rfl) (Nat.le_of_ble_eq_true rfl) (g_iret X hr dX7_restore_82)
  · have hf := opos c822 hf
    have hf := Option.some.inj hf
    subst hf
    exact g_throwSW X hne hfl 2 27 (by decide) rfl rfl dX7_restore_43 dX7_restore_46 dX7_restore_47 dX7_restore_50 dX7_restore_53 xw_2 ⟨(Nat.le_of_ble_eq_true rfl), (Nat.le_of_ble_eq_true rfl), (Nat.le_of_ble_eq_true rfl), (Nat.le_of_ble_eq_true rfl)⟩ ⟨(Nat.le_of_ble_eq_true rfl), (Nat.le_of_ble_eq_true rfl)⟩
def f_X7_restore_b35v1 (v1 : TBv) (v2 : Fn) (vh : HIv) (v7 : Int32) (v8 : TBv) (v9 : Fn) (v10 : Int32) (v11 : TBv) (v12 : Fn) : Option ((Int32 × TBv × Fn × HIv) ⊕ (Nat × TBv × Fn × HIv)) :=
  if v7 = 0 then some (.inr (2, v1, v2, vh)) else (f_X4_copyFrom v1 v2 v8 v9).bind (fun q823 => (f_X0_clear vh).bind (fun q824 => (f_X3_count q823.2).bind (fun q825 => some (.inl (q825, q823.1, q823.2, q824)))))
set_option maxRecDepth 100000 in
set_option maxHeartbeats 4000000 in
theorem j_X7_restore_b35v1 {p : Program} {l : Launch} {e : Env} {s : State} {m : MethodId} {args : Array Value} {below : List Frame} {meth : Method} {c : Code} {A : Nat → Prop} {D : va_G} {cy : Nat → ClassId} {ad : (Nat → Nat) × (Nat → Nat)} (X : gK p s m args meth c A D cy ad cX7_restore 3 RX7) (hr : meth.sig.returnType = (some .int)) (hne : ∀ x ∈ c.exceptionTable.toList, False) (hfl : l.stackTraces = false) {h0 h1 h2 h3 h4 h5 h6 h7 h8 h9 a1 a2 a3 a4 r1 d1 d2 d3 d4 d5 e1 e2 e3 e4 e5 : Nat} (v1 : TBv) (v2 : Fn) (vh : HIv) (v7 : Int32) (v8 : TBv) (v9 : Fn) (v10 : Int32) (v11 : TBv) (v12 : Fn) {q : (Int32 × TBv × Fn × HIv) ⊕ (Nat × TBv × Fn × HIv)} (hf : f_X7_restore_b35v1 v1 v2 vh v7 v8 v9 v10 v11 v12 = some q) : GW p l e rmX7_restore s m args below meth c A D 3 0 0 (vx_MQ below (xmQ D cy A (Sum.elim (fun q => Sum.inl ((some (.int q.1)), [FP h0 h1 h2 h3 h4 h5 h6 h7 h8 h9, TB cy h2 a1 a2 a3 q.2.1, SU cy a2 a4 q.2.2.1, HI h4 r1 q.2.2.2, SL h5 d1 v7, TB cy d1 d2 d3 d4 v8, SU cy d3 d5 v9, SL h6 e1 v10, TB cy e1 e2 e3 e4 v11, SU cy e3 e5 v12])) (fun q => Sum.inr (q.1, [FP h0 h1 h2 h3 h4 h5 h6 h7 h8 h9, TB cy h2 a1 a2 a3 q.2.1, SU cy a2 a4 q.2.2.1, HI h4 r1 q.2.2.2, SL h5 d1 v7, TB cy d1 d2 d3 d4 v8, SU cy d3 d5 v9, SL h6 e1 v10, TB cy e1 e2 e3 e4 v11, SU cy e3 e5 v12])) q : xRes)) (xmX D cy A (Sum.elim (fun q => Sum.inl ((some (.int q.1)), [FP h0 h1 h2 h3 h4 h5 h6 h7 h8 h9, TB cy h2 a1 a2 a3 q.2.1, SU cy a2 a4 q.2.2.1, HI h4 r1 q.2.2.2, SL h5 d1 v7, TB cy d1 d2 d3 d4 v8, SU cy d3 d5 v9, SL h6 e1 v10, TB cy e1 e2 e3 e4 v11, SU cy e3 e5 v12])) (fun q => Sum.inr (q.1, [FP h0 h1 h2 h3 h4 h5 h6 h7 h8 h9, TB cy h2 a1 a2 a3 q.2.1, SU cy a2 a4 q.2.2.1, HI h4 r1 q.2.2.2, SL h5 d1 v7, TB cy d1 d2 d3 d4 v8, SU cy d3 d5 v9, SL h6 e1 v10, TB cy e1 e2 e3 e4 v11, SU cy e3 e5 v12])) q : xRes)) args s 1 6 A) 35 [(0, .ref h0)] [.ref h5] [FP h0 h1 h2 h3 h4 h5 h6 h7 h8 h9, TB cy h2 a1 a2 a3 v1, SU cy a2 a4 v2, HI h4 r1 vh, SL h5 d1 v7, TB cy d1 d2 d3 d4 v8, SU cy d3 d5 v9, SL h6 e1 v10, TB cy e1 e2 e3 e4 v11, SU cy e3 e5 v12] := by
  unfold f_X7_restore_b35v1 at hf
  refine g_astore_n (lv' := [(0, .ref h0), (2, .ref h5)]) X dX7_restore_35 [1, 0] rfl (Nat.le_of_ble_eq_true rfl) rfl ?_
  refine g_aload_n X dX7_restore_36 1 rfl rfl ?_
  refine g_get X dX7_restore_37 ck_X2 4 0 1 rfl rfl (Nat.le_of_ble_eq_true rfl) lkf_X7_113 rfl ?_
  refine g_if_ne X 54 dX7_restore_40 (by decide) (fun c826 => ?_) (fun c826 => ?_)
  · have hf := oneg c826 hf
    refine g_aload_n X dX7_restore_54 0 rfl rfl ?_
    refine g_get X dX7_restore_55 ck_X7 0 0 1 rfl rfl (Nat.le_of_ble_eq_true rfl) lkf_X7_19 rfl ?_
    refine g_aload_n X dX7_restore_58 1 rfl rfl ?_
    refine g_get X dX7_restore_59 ck_X2 4 0 0 rfl rfl (Nat.le_of_ble_eq_true rfl) lkf_X7_310 rfl ?_
    obtain ⟨q823, hq823, hf⟩ := obind hf
    refine g_callV (gs' := [FP h0 h1 h2 h3 h4 h5 h6 h7 h8 h9, TB cy h2 a1 a2 a3 q823.1, SU cy a2 a4 q823.2, HI h4 r1 vh, SL h5 d1 v7, TB cy d1 d2 d3 d4 v8, SU cy d3 d5 v9, SL h6 e1 v10, TB cy e1 e2 e3 e4 v11, SU cy e3 e5 v12]) (rest := []) X dX7_restore_62 (c_X4_copyFrom l D cy ad h2 a1 a2 a3 a4 d1 d2 d3 d4 d5 v1 v2 v8 v9 hq823) mf_X4_copyFrom mv_X4_copyFrom lkm_X7_290 ⟨(Nat.le_of_ble_eq_true rfl), (Nat.le_of_ble_eq_true rfl), (Nat.le_of_ble_eq_true rfl), (Nat.le_of_ble_eq_true rfl)⟩ 1 0 rfl rfl rfl rfl [1, 2, 5, 6, 0, 3, 4, 7, 8, 9] _ (by decide : [1, 2, 5, 6, 0, 3, 4, 7, 8, 9].Perm (List.range 10)) rfl (by decide : [1, 2, 5, 6, 0, 3, 4, 7, 8, 9].Perm (List.range 10)) rfl (Nat.le_of_ble_eq_true rfl) rfl ?_
    refine g_aload_n X dX7_restore_65 0 rfl rfl ?_
    refine g_get X dX7_restore_66 ck_X7 0 0 3 rfl rfl (Nat.le_of_ble_eq_true rfl) lkf_X7_29 rfl ?_
    obtain ⟨q824, hq824, hf⟩ := obind hf
    refine g_callV (gs' := [FP h0 h1 h2 h3 h4 h5 h6 h7 h8 h9, TB cy h2 a1 a2 a3 q823.1, SU cy a2 a4 q823.2, HI h4 r1 q824, SL h5 d1 v7, TB cy d1 d2 d3 d4 v8, SU cy d3 d5 v9, SL h6 e1 v10, TB cy e1 e2 e3 e4 v11, SU cy e3 e5 v12]) (rest := []) X dX7_restore_69 (c_X0_clear l D cy ad h4 r1 vh hq824) mf_X0_clear mv_X0_clear lkm_X7_110 ⟨(Nat.le_of_ble_eq_true rfl), (Nat.le_of_ble_eq_true rfl), (Nat.le_of_ble_eq_true rfl), (Nat.le_of_ble_eq_true rfl)⟩ 3 0 rfl rfl rfl rfl [3, 0, 1, 2, 4, 5, 6, 7, 8, 9] _ (by decide : [3, 0, 1, 2, 4, 5, 6, 7, 8, 9].Perm (List.range 10)) rfl (by decide : [3, 0, 1, 2, 4, 5, 6, 7, 8, 9].Perm (List.range 10)) rfl (Nat.le_of_ble_eq_true rfl) rfl ?_
    refine g_aload_n X dX7_restore_72 0 rfl rfl ?_
    refine g_get X dX7_restore_73 ck_X7 0 0 1 rfl rfl (Nat.le_of_ble_eq_true rfl) lkf_X7_19 rfl ?_
    refine g_get X dX7_restore_76 ck_X4 1 0 8 rfl rfl (Nat.le_of_ble_eq_true rfl) lkf_X7_149 rfl ?_
    obtain ⟨q825, hq825, hf⟩ := obind hf
    refine g_callV (gs' := [FP h0 h1 h2 h3 h4 h5 h6 h7 h8 h9, TB cy h2 a1 a2 a3 q823.1, SU cy a2 a4 q823.2, HI h4 r1 q824, SL h5 d1 v7, TB cy d1 d2 d3 d4 v8, SU cy d3 d5 v9, SL h6 e1 v10, TB cy e1 e2 e3 e4 v11, SU cy e3 e5 v12]) (rest := []) X dX7_restore_79 (c_X3_count l D cy ad a2 a4 q823.2 hq825) mf_X3_count mv_X3_count lkm_X7_153 ⟨(Nat.le_of_ble_eq_true rfl), (Nat.le_of_ble_eq_true rfl), (Nat.le_of_ble_eq_true rfl), (Nat.le_of_ble_eq_true rfl)⟩ 2 0 rfl rfl rfl rfl [2, 0, 1, 3, 4, 5, 6, 7, 8, 9] _ (by decide : [2, 0, 1, 3, 4, 5, 6, 7, 8, 9].Perm (List.range 10)) rfl (by decide : [2, 0, 1, 3, 4, 5, 6, 7, 8, 9].Perm (List.range 10)) rfl (Nat.le_of_ble_eq_true rfl) rfl ?_
    have hf := Option.some.inj hf
    subst hf
    exact g_xret (Nat.le_of_ble_eq_true rfl) (Nat.le_of_ble_eq_true rfl) (g_iret X hr dX7_restore_82)
  · have hf := opos c826 hf
    have hf := Option.some.inj hf
    subst hf
    exact g_throwSW X hne hfl 2 27 (by decide) rfl rfl dX7_restore_43 dX7_restore_46 dX7_restore_47 dX7_restore_50 dX7_restore_53 xw_2 ⟨(Nat.le_of_ble_eq_true rfl), (Nat.le_of_ble_eq_true rfl), (Nat.le_of_ble_eq_true rfl), (Nat.le_of_ble_eq_true rfl)⟩ ⟨(Nat.le_of_ble_eq_true rfl), (Nat.le_of_ble_eq_true rfl)⟩
def f_X7_restore (v1 : TBv) (v2 : Fn) (vh : HIv) (v7 : Int32) (v8 : TBv) (v9 : Fn) (v10 : Int32) (v11 : TBv) (v12 : Fn) (p1 : Int32) : Option ((Int32 × TBv × Fn × HIv) ⊕ (Nat × TBv × Fn × HIv)) :=
  if p1 < 0 then f_X7_restore_b9 v1 v2 vh v7 v8 v9 v10 v11 v12 else if p1 < (2 : Int32) then if p1 = 0 then f_X7_restore_b35v1 v1 v2 vh v7 v8 v9 v10 v11 v12 else f_X7_restore_b35 v1 v2 vh v7 v8 v9 v10 v11 v12 else f_X7_restore_b9 v1 v2 vh v7 v8 v9 v10 v11 v12
set_option maxRecDepth 100000 in
set_option maxHeartbeats 4000000 in
theorem c_X7_restore (l : Launch) (D : va_G) (cy : Nat → ClassId) (ad : (Nat → Nat) × (Nat → Nat)) (h0 : Nat) (h1 : Nat) (h2 : Nat) (h3 : Nat) (h4 : Nat) (h5 : Nat) (h6 : Nat) (h7 : Nat) (h8 : Nat) (h9 : Nat) (a1 : Nat) (a2 : Nat) (a3 : Nat) (a4 : Nat) (r1 : Nat) (d1 : Nat) (d2 : Nat) (d3 : Nat) (d4 : Nat) (d5 : Nat) (e1 : Nat) (e2 : Nat) (e3 : Nat) (e4 : Nat) (e5 : Nat) (v1 : TBv) (v2 : Fn) (vh : HIv) (v7 : Int32) (v8 : TBv) (v9 : Fn) (v10 : Int32) (v11 : TBv) (v12 : Fn) (p1 : Int32) (hfl : l.stackTraces = false) {q : (Int32 × TBv × Fn × HIv) ⊕ (Nat × TBv × Fn × HIv)} (hf : f_X7_restore v1 v2 vh v7 v8 v9 v10 v11 v12 p1 = some q) : XM l yX7_restore cX7_restore 3 (some .int) rmX7_restore D cy ad [.ref h0, .int p1] [FP h0 h1 h2 h3 h4 h5 h6 h7 h8 h9, TB cy h2 a1 a2 a3 v1, SU cy a2 a4 v2, HI h4 r1 vh, SL h5 d1 v7, TB cy d1 d2 d3 d4 v8, SU cy d3 d5 v9, SL h6 e1 v10, TB cy e1 e2 e3 e4 v11, SU cy e3 e5 v12] (Sum.elim (fun q => Sum.inl ((some (.int q.1)), [FP h0 h1 h2 h3 h4 h5 h6 h7 h8 h9, TB cy h2 a1 a2 a3 q.2.1, SU cy a2 a4 q.2.2.1, HI h4 r1 q.2.2.2, SL h5 d1 v7, TB cy d1 d2 d3 d4 v8, SU cy d3 d5 v9, SL h6 e1 v10, TB cy e1 e2 e3 e4 v11, SU cy e3 e5 v12])) (fun q => Sum.inr (q.1, [FP h0 h1 h2 h3 h4 h5 h6 h7 h8 h9, TB cy h2 a1 a2 a3 q.2.1, SU cy a2 a4 q.2.2.1, HI h4 r1 q.2.2.2, SL h5 d1 v7, TB cy d1 d2 d3 d4 v8, SU cy d3 d5 v9, SL h6 e1 v10, TB cy e1 e2 e3 e4 v11, SU cy e3 e5 v12])) q : xRes) := by
  refine xm_of (lv0 := [(0, .ref h0), (1, .int p1)]) (by decide) (Nat.le_of_ble_eq_true rfl) rfl ?_
  intro p e s m args below meth c A X hr hne
  have X : gK p s m args meth c A D cy ad cX7_restore 3 RX7 := X
  unfold f_X7_restore at hf
  refine g_iload_n X dX7_restore_0 1 rfl rfl ?_
  refine g_if_lt X 9 dX7_restore_1 (by decide) (fun c829 => ?_) (fun c829 => ?_)
  · have hf := opos c829 hf
    refine g_sub [] (lv' := []) rfl ?_
    exact j_X7_restore_b9 X hr hne hfl v1 v2 vh v7 v8 v9 v10 v11 v12 hf
  · have hf := oneg c829 hf
    refine g_iload_n X dX7_restore_4 1 rfl rfl ?_
    refine g_iconst X (2 : Int32) dX7_restore_5 (by decide) ?_
    refine g_icmp_lt X 20 dX7_restore_6 (by decide) (fun c828 => ?_) (fun c828 => ?_)
    · have hf := opos c828 hf
      refine g_iload_n X dX7_restore_20 1 rfl rfl ?_
      refine g_if_ne X 31 dX7_restore_21 (by decide) (fun c827 => ?_) (fun c827 => ?_)
      · have hf := oneg c827 hf
        refine g_aload_n X dX7_restore_31 0 rfl rfl ?_
        refine g_get X dX7_restore_32 ck_X7 0 0 5 rfl rfl (Nat.le_of_ble_eq_true rfl) lkf_X7_40 rfl ?_
        refine g_sub [0] (lv' := [(0, .ref h0)]) rfl ?_
        exact j_X7_restore_b35 X hr hne hfl v1 v2 vh v7 v8 v9 v10 v11 v12 hf
      · have hf := opos c827 hf
        refine g_aload_n X dX7_restore_24 0 rfl rfl ?_
        refine g_get X dX7_restore_25 ck_X7 0 0 4 rfl rfl (Nat.le_of_ble_eq_true rfl) lkf_X7_36 rfl ?_
        refine g_goto X 35 dX7_restore_28 (by decide) ?_
        refine g_sub [0] (lv' := [(0, .ref h0)]) rfl ?_
        exact j_X7_restore_b35v1 X hr hne hfl v1 v2 vh v7 v8 v9 v10 v11 v12 hf
    · have hf := oneg c828 hf
      refine g_sub [] (lv' := []) rfl ?_
      exact j_X7_restore_b9 X hr hne hfl v1 v2 vh v7 v8 v9 v10 v11 v12 hf
