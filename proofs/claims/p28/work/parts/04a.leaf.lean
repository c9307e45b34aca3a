abbrev rmX0_clear : Room := ({ frames := 0, cells := 0, slots := 0, locals := 0 } : Room)
def f_X0_clear (v0 : HIv) : Option (HIv) :=
  some ((0 : Int32), (0 : Int32))
set_option maxRecDepth 100000 in
set_option maxHeartbeats 4000000 in
theorem c_X0_clear (l : Launch) (D : va_G) (cy : Nat → ClassId) (ad : (Nat → Nat) × (Nat → Nat)) (h0 : Nat) (h1 : Nat) (v0 : HIv) {q : HIv} (hf : f_X0_clear v0 = some q) : CM l yX0_clear cX0_clear 1 none rmX0_clear D cy ad [.ref h0] [HI h0 h1 v0] none [HI h0 h1 q] := by
  refine cm_of (lv0 := [(0, .ref h0)]) (by decide) (Nat.le_of_ble_eq_true rfl) rfl ?_
  intro p e s m args below meth c A X hr hn
  have X : gK p s m args meth c A D cy ad cX0_clear 1 RX0 := X
  unfold f_X0_clear at hf
  refine g_aload_n X dX0_clear_0 0 rfl rfl ?_
  refine g_iconst X (0 : Int32) dX0_clear_1 (by decide) ?_
  refine g_put (gs' := [HI h0 h1 ((0 : Int32), v0.2)]) X dX0_clear_2 ck_X0 ct_X0 0 0 1 rfl rfl (Nat.le_of_ble_eq_true rfl) lkf_X0_18 rfl rfl rfl (Nat.le_of_ble_eq_true rfl) rfl ?_
  refine g_aload_n X dX0_clear_5 0 rfl rfl ?_
  refine g_iconst X (0 : Int32) dX0_clear_6 (by decide) ?_
  refine g_put (gs' := [HI h0 h1 ((0 : Int32), (0 : Int32))]) X dX0_clear_7 ck_X0 ct_X0 0 0 2 rfl rfl (Nat.le_of_ble_eq_true rfl) lkf_X0_22 rfl rfl rfl (Nat.le_of_ble_eq_true rfl) rfl ?_
  have hf := Option.some.inj hf
  subst hf
  exact g_vret X hr dX0_clear_10
abbrev rmJ6_bitCount_0f7a4 : Room := ({ frames := 0, cells := 0, slots := 0, locals := 0 } : Room)
def f_J6_bitCount_0f7a4_b48 (x0 : Int32) : Option (Int32) :=
  some (x0 &&& (63 : Int32))
set_option maxRecDepth 100000 in
set_option maxHeartbeats 4000000 in
theorem j_J6_bitCount_0f7a4_b48 {p : Program} {l : Launch} {e : Env} {s : State} {m : MethodId} {args : Array Value} {below : List Frame} {meth : Method} {c : Code} {A : Nat → Prop} {D : va_G} {cy : Nat → ClassId} {ad : (Nat → Nat) × (Nat → Nat)} (X : gK p s m args meth c A D cy ad cJ6_bitCount_0f7a4 1 RJ6) (hr : meth.sig.returnType = (some .int)) (x0 : Int32) {q : Int32} (hf : f_J6_bitCount_0f7a4_b48 x0 = some q) : GW p l e rmJ6_bitCount_0f7a4 s m args below meth c A D 1 0 0 (MQ below (cmQ D cy A (some (.int q)) ([] : List va_W).flatten) args s 0 0 A) 48 [(0, .int x0)] [] [] := by
  unfold f_J6_bitCount_0f7a4_b48 at hf
  refine g_iload_n X dJ6_bitCount_0f7a4_48 0 rfl rfl ?_
  refine g_bipush X (63 : Int32) dJ6_bitCount_0f7a4_49 (by decide) ?_
  refine g_iand X dJ6_bitCount_0f7a4_51 ?_
  have hf := Option.some.inj hf
  subst hf
  exact g_iret X hr dJ6_bitCount_0f7a4_52
def f_J6_bitCount_0f7a4_b34 (x0 : Int32) : Option (Int32) :=
  f_J6_bitCount_0f7a4_b48 ((x0 + (((x0).toUInt32 >>> (((8 : Int32)).toUInt32 &&& Int32.toUInt32 31)).toInt32)) + ((((x0 + (((x0).toUInt32 >>> (((8 : Int32)).toUInt32 &&& Int32.toUInt32 31)).toInt32))).toUInt32 >>> (((16 : Int32)).toUInt32 &&& Int32.toUInt32 31)).toInt32))
set_option maxRecDepth 100000 in
set_option maxHeartbeats 4000000 in
theorem j_J6_bitCount_0f7a4_b34 {p : Program} {l : Launch} {e : Env} {s : State} {m : MethodId} {args : Array Value} {below : List Frame} {meth : Method} {c : Code} {A : Nat → Prop} {D : va_G} {cy : Nat → ClassId} {ad : (Nat → Nat) × (Nat → Nat)} (X : gK p s m args meth c A D cy ad cJ6_bitCount_0f7a4 1 RJ6) (hr : meth.sig.returnType = (some .int)) (x0 : Int32) {q : Int32} (hf : f_J6_bitCount_0f7a4_b34 x0 = some q) : GW p l e rmJ6_bitCount_0f7a4 s m args below meth c A D 1 0 0 (MQ below (cmQ D cy A (some (.int q)) ([] : List va_W).flatten) args s 0 0 A) 34 [(0, .int x0)] [] [] := by
  unfold f_J6_bitCount_0f7a4_b34 at hf
  refine g_iload_n X dJ6_bitCount_0f7a4_34 0 rfl rfl ?_
  refine g_iload_n X dJ6_bitCount_0f7a4_35 0 rfl rfl ?_
  refine g_bipush X (8 : Int32) dJ6_bitCount_0f7a4_36 (by decide) ?_
  refine g_iushr X dJ6_bitCount_0f7a4_38 ?_
  refine g_iadd X dJ6_bitCount_0f7a4_39 ?_
  refine g_istore_n (lv' := [(0, .int (x0 + (((x0).toUInt32 >>> (((8 : Int32)).toUInt32 &&& Int32.toUInt32 31)).toInt32)))]) X dJ6_bitCount_0f7a4_40 [0] rfl (Nat.le_of_ble_eq_true rfl) rfl ?_
  refine g_iload_n X dJ6_bitCount_0f7a4_41 0 rfl rfl ?_
  refine g_iload_n X dJ6_bitCount_0f7a4_42 0 rfl rfl ?_
  refine g_bipush X (16 : Int32) dJ6_bitCount_0f7a4_43 (by decide) ?_
  refine g_iushr X dJ6_bitCount_0f7a4_45 ?_
  refine g_iadd X dJ6_bitCount_0f7a4_46 ?_
  refine g_istore_n (lv' := [(0, .int ((x0 + (((x0).toUInt32 >>> (((8 : Int32)).toUInt32 &&& Int32.toUInt32 31)).toInt32)) + ((((x0 + (((x0).toUInt32 >>> (((8 : Int32)).toUInt32 &&& Int32.toUInt32 31)).toInt32))).toUInt32 >>> (((16 : Int32)).toUInt32 &&& Int32.toUInt32 31)).toInt32)))]) X dJ6_bitCount_0f7a4_47 [0] rfl (Nat.le_of_ble_eq_true rfl) rfl ?_
  exact j_J6_bitCount_0f7a4_b48 X hr ((x0 + (((x0).toUInt32 >>> (((8 : Int32)).toUInt32 &&& Int32.toUInt32 31)).toInt32)) + ((((x0 + (((x0).toUInt32 >>> (((8 : Int32)).toUInt32 &&& Int32.toUInt32 31)).toInt32))).toUInt32 >>> (((16 : Int32)).toUInt32 &&& Int32.toUInt32 31)).toInt32)) hf
def f_J6_bitCount_0f7a4_b24 (x0 : Int32) : Option (Int32) :=
  f_J6_bitCount_0f7a4_b34 ((x0 + (((x0).toUInt32 >>> (((4 : Int32)).toUInt32 &&& Int32.toUInt32 31)).toInt32)) &&& (252645135 : Int32))
set_option maxRecDepth 100000 in
set_option maxHeartbeats 4000000 in
theorem j_J6_bitCount_0f7a4_b24 {p : Program} {l : Launch} {e : Env} {s : State} {m : MethodId} {args : Array Value} {below : List Frame} {meth : Method} {c : Code} {A : Nat → Prop} {D : va_G} {cy : Nat → ClassId} {ad : (Nat → Nat) × (Nat → Nat)} (X : gK p s m args meth c A D cy ad cJ6_bitCount_0f7a4 1 RJ6) (hr : meth.sig.returnType = (some .int)) (x0 : Int32) {q : Int32} (hf : f_J6_bitCount_0f7a4_b24 x0 = some q) : GW p l e rmJ6_bitCount_0f7a4 s m args below meth c A D 1 0 0 (MQ below (cmQ D cy A (some (.int q)) ([] : List va_W).flatten) args s 0 0 A) 24 [(0, .int x0)] [] [] := by
  unfold f_J6_bitCount_0f7a4_b24 at hf
  refine g_iload_n X dJ6_bitCount_0f7a4_24 0 rfl rfl ?_
  refine g_iload_n X dJ6_bitCount_0f7a4_25 0 rfl rfl ?_
  refine g_iconst X (4 : Int32) dJ6_bitCount_0f7a4_26 (by decide) ?_
  refine g_iushr X dJ6_bitCount_0f7a4_27 ?_
  refine g_iadd X dJ6_bitCount_0f7a4_28 ?_
  refine g_ldcw X lkc_J6_267 dJ6_bitCount_0f7a4_29 ?_
  refine g_iand X dJ6_bitCount_0f7a4_32 ?_
  refine g_istore_n (lv' := [(0, .int ((x0 + (((x0).toUInt32 >>> (((4 : Int32)).toUInt32 &&& Int32.toUInt32 31)).toInt32)) &&& (252645135 : Int32)))]) X dJ6_bitCount_0f7a4_33 [0] rfl (Nat.le_of_ble_eq_true rfl) rfl ?_
  exact j_J6_bitCount_0f7a4_b34 X hr ((x0 + (((x0).toUInt32 >>> (((4 : Int32)).toUInt32 &&& Int32.toUInt32 31)).toInt32)) &&& (252645135 : Int32)) hf
def f_J6_bitCount_0f7a4_b10 (x0 : Int32) : Option (Int32) :=
  f_J6_bitCount_0f7a4_b24 ((x0 &&& (858993459 : Int32)) + ((((x0).toUInt32 >>> (((2 : Int32)).toUInt32 &&& Int32.toUInt32 31)).toInt32) &&& (858993459 : Int32)))
set_option maxRecDepth 100000 in
set_option maxHeartbeats 4000000 in
theorem j_J6_bitCount_0f7a4_b10 {p : Program} {l : Launch} {e : Env} {s : State} {m : MethodId} {args : Array Value} {below : List Frame} {meth : Method} {c : Code} {A : Nat → Prop} {D : va_G} {cy : Nat → ClassId} {ad : (Nat → Nat) × (Nat → Nat)} (X : gK p s m args meth c A D cy ad cJ6_bitCount_0f7a4 1 RJ6) (hr : meth.sig.returnType = (some .int)) (x0 : Int32) {q : Int32} (hf : f_J6_bitCount_0f7a4_b10 x0 = some q) : GW p l e rmJ6_bitCount_0f7a4 s m args below meth c A D 1 0 0 (MQ below (cmQ D cy A (some (.int q)) ([] : List va_W).flatten) args s 0 0 A) 10 [(0, .int x0)] [] [] := by
  unfold f_J6_bitCount_0f7a4_b10 at hf
  refine g_iload_n X dJ6_bitCount_0f7a4_10 0 rfl rfl ?_
  refine g_ldcw X lkc_J6_266 dJ6_bitCount_0f7a4_11 ?_
  refine g_iand X dJ6_bitCount_0f7a4_14 ?_
  refine g_iload_n X dJ6_bitCount_0f7a4_15 0 rfl rfl ?_
  refine g_iconst X (2 : Int32) dJ6_bitCount_0f7a4_16 (by decide) ?_
  refine g_iushr X dJ6_bitCount_0f7a4_17 ?_
  refine g_ldcw X lkc_J6_266 dJ6_bitCount_0f7a4_18 ?_
  refine g_iand X dJ6_bitCount_0f7a4_21 ?_
  refine g_iadd X dJ6_bitCount_0f7a4_22 ?_
  refine g_istore_n (lv' := [(0, .int ((x0 &&& (858993459 : Int32)) + ((((x0).toUInt32 >>> (((2 : Int32)).toUInt32 &&& Int32.toUInt32 31)).toInt32) &&& (858993459 : Int32))))]) X dJ6_bitCount_0f7a4_23 [0] rfl (Nat.le_of_ble_eq_true rfl) rfl ?_
  exact j_J6_bitCount_0f7a4_b24 X hr ((x0 &&& (858993459 : Int32)) + ((((x0).toUInt32 >>> (((2 : Int32)).toUInt32 &&& Int32.toUInt32 31)).toInt32) &&& (858993459 : Int32))) hf
def f_J6_bitCount_0f7a4 (p0 : Int32) : Option (Int32) :=
  f_J6_bitCount_0f7a4_b10 (p0 - ((((p0).toUInt32 >>> (((1 : Int32)).toUInt32 &&& Int32.toUInt32 31)).toInt32) &&& (1431655765 : Int32)))
set_option maxRecDepth 100000 in
set_option maxHeartbeats 4000000 in
theorem c_J6_bitCount_0f7a4 (l : Launch) (D : va_G) (cy : Nat → ClassId) (ad : (Nat → Nat) × (Nat → Nat)) (p0 : Int32) {q : Int32} (hf : f_J6_bitCount_0f7a4 p0 = some q) : CM l yJ6_bitCount_0f7a4 cJ6_bitCount_0f7a4 1 (some .int) rmJ6_bitCount_0f7a4 D cy ad [.int p0] [] (some (.int q)) [] := by
  refine cm_of (lv0 := [(0, .int p0)]) (by decide) (Nat.le_of_ble_eq_true rfl) rfl ?_
  intro p e s m args below meth c A X hr hn
  have X : gK p s m args meth c A D cy ad cJ6_bitCount_0f7a4 1 RJ6 := X
  unfold f_J6_bitCount_0f7a4 at hf
  refine g_iload_n X dJ6_bitCount_0f7a4_0 0 rfl rfl ?_
  refine g_iload_n X dJ6_bitCount_0f7a4_1 0 rfl rfl ?_
  refine g_iconst X (1 : Int32) dJ6_bitCount_0f7a4_2 (by decide) ?_
  refine g_iushr X dJ6_bitCount_0f7a4_3 ?_
  refine g_ldcw X lkc_J6_265 dJ6_bitCount_0f7a4_4 ?_
  refine g_iand X dJ6_bitCount_0f7a4_7 ?_
  refine g_isub X dJ6_bitCount_0f7a4_8 ?_
  refine g_istore_n (lv' := [(0, .int (p0 - ((((p0).toUInt32 >>> (((1 : Int32)).toUInt32 &&& Int32.toUInt32 31)).toInt32) &&& (1431655765 : Int32))))]) X dJ6_bitCount_0f7a4_9 [0] rfl (Nat.le_of_ble_eq_true rfl) rfl ?_
  exact j_J6_bitCount_0f7a4_b10 X hr (p0 - ((((p0).toUInt32 >>> (((1 : Int32)).toUInt32 &&& Int32.toUInt32 31)).toInt32) &&& (1431655765 : Int32))) hf
abbrev rmX1_set : Room := ({ frames := 1, cells := 0, slots := 0, locals := 20 } : Room)
def f_X1_set (v0 : SCv) (p1 : Int32) (p2 : Int32) (p3 : Int32) (p4 : Int32) : Option (SCv) :=
  (f_J6_bitCount_0f7a4 p1).bind (fun q5 => (f_J6_bitCount_0f7a4 p2).bind (fun q6 => some (p1, p2, p3, p4, ((10 : Int32) * q5), ((10 : Int32) * q6))))
set_option maxRecDepth 100000 in
set_option maxHeartbeats 4000000 in
theorem c_X1_set (l : Launch) (D : va_G) (cy : Nat → ClassId) (ad : (Nat → Nat) × (Nat → Nat)) (h0 : Nat) (v0 : SCv) (p1 : Int32) (p2 : Int32) (p3 : Int32) (p4 : Int32) {q : SCv} (hf : f_X1_set v0 p1 p2 p3 p4 = some q) : CM l yX1_set cX1_set 5 none rmX1_set D cy ad [.ref h0, .int p1, .int p2, .int p3, .int p4] [SC h0 v0] none [SC h0 q] := by
  refine cm_of (lv0 := [(0, .ref h0), (1, .int p1), (2, .int p2), (3, .int p3), (4, .int p4)]) (by decide) (Nat.le_of_ble_eq_true rfl) rfl ?_
  intro p e s m args below meth c A X hr hn
  have X : gK p s m args meth c A D cy ad cX1_set 5 RX1 := X
  unfold f_X1_set at hf
  refine g_aload_n X dX1_set_0 0 rfl rfl ?_
  refine g_iload_n X dX1_set_1 1 rfl rfl ?_
  refine g_put (gs' := [SC h0 (p1, v0.2.1, v0.2.2.1, v0.2.2.2.1, v0.2.2.2.2.1, v0.2.2.2.2.2)]) X dX1_set_2 ck_X1 ct_X1 0 0 0 rfl rfl (Nat.le_of_ble_eq_true rfl) lkf_X1_9 rfl rfl rfl (Nat.le_of_ble_eq_true rfl) rfl ?_
  refine g_aload_n X dX1_set_5 0 rfl rfl ?_
  refine g_iload_n X dX1_set_6 2 rfl rfl ?_
  refine g_put (gs' := [SC h0 (p1, p2, v0.2.2.1, v0.2.2.2.1, v0.2.2.2.2.1, v0.2.2.2.2.2)]) X dX1_set_7 ck_X1 ct_X1 0 0 1 rfl rfl (Nat.le_of_ble_eq_true rfl) lkf_X1_15 rfl rfl rfl (Nat.le_of_ble_eq_true rfl) rfl ?_
  refine g_aload_n X dX1_set_10 0 rfl rfl ?_
  refine g_iload_n X dX1_set_11 3 rfl rfl ?_
  refine g_put (gs' := [SC h0 (p1, p2, p3, v0.2.2.2.1, v0.2.2.2.2.1, v0.2.2.2.2.2)]) X dX1_set_12 ck_X1 ct_X1 0 0 2 rfl rfl (Nat.le_of_ble_eq_true rfl) lkf_X1_18 rfl rfl rfl (Nat.le_of_ble_eq_true rfl) rfl ?_
  refine g_aload_n X dX1_set_15 0 rfl rfl ?_
  refine g_iload X dX1_set_16 4 rfl ?_
  refine g_put (gs' := [SC h0 (p1, p2, p3, p4, v0.2.2.2.2.1, v0.2.2.2.2.2)]) X dX1_set_18 ck_X1 ct_X1 0 0 3 rfl rfl (Nat.le_of_ble_eq_true rfl) lkf_X1_21 rfl rfl rfl (Nat.le_of_ble_eq_true rfl) rfl ?_
  refine g_aload_n X dX1_set_21 0 rfl rfl ?_
  refine g_bipush X (10 : Int32) dX1_set_22 (by decide) ?_
  refine g_iload_n X dX1_set_24 1 rfl rfl ?_
  obtain ⟨q5, hq5, hf⟩ := obind hf
  refine g_callS (gs' := [SC h0 (p1, p2, p3, p4, v0.2.2.2.2.1, v0.2.2.2.2.2)]) (rest := [.int (10 : Int32), .ref h0]) X dX1_set_25 (c_J6_bitCount_0f7a4 l D cy ad p1 hq5) mf_J6_bitCount_0f7a4 ms_J6_bitCount_0f7a4 lkm_X1_24 ⟨(Nat.le_of_ble_eq_true rfl), (Nat.le_of_ble_eq_true rfl), (Nat.le_of_ble_eq_true rfl), (Nat.le_of_ble_eq_true rfl)⟩ [0] _ (by decide : [0].Perm (List.range 1)) rfl (by decide : [0].Perm (List.range 1)) rfl (Nat.le_of_ble_eq_true rfl) rfl ?_
  refine g_imul X dX1_set_28 ?_
  refine g_put (gs' := [SC h0 (p1, p2, p3, p4, ((10 : Int32) * q5), v0.2.2.2.2.2)]) X dX1_set_29 ck_X1 ct_X1 0 0 4 rfl rfl (Nat.le_of_ble_eq_true rfl) lkf_X1_30 rfl rfl rfl (Nat.le_of_ble_eq_true rfl) rfl ?_
  refine g_aload_n X dX1_set_32 0 rfl rfl ?_
  refine g_bipush X (10 : Int32) dX1_set_33 (by decide) ?_
  refine g_iload_n X dX1_set_35 2 rfl rfl ?_
  obtain ⟨q6, hq6, hf⟩ := obind hf
  refine g_callS (gs' := [SC h0 (p1, p2, p3, p4, ((10 : Int32) * q5), v0.2.2.2.2.2)]) (rest := [.int (10 : Int32), .ref h0]) X dX1_set_36 (c_J6_bitCount_0f7a4 l D cy ad p2 hq6) mf_J6_bitCount_0f7a4 ms_J6_bitCount_0f7a4 lkm_X1_24 ⟨(Nat.le_of_ble_eq_true rfl), (Nat.le_of_ble_eq_true rfl), (Nat.le_of_ble_eq_true rfl), (Nat.le_of_ble_eq_true rfl)⟩ [0] _ (by decide : [0].Perm (List.range 1)) rfl (by decide : [0].Perm (List.range 1)) rfl (Nat.le_of_ble_eq_true rfl) rfl ?_
  refine g_imul X dX1_set_39 ?_
  refine g_put (gs' := [SC h0 (p1, p2, p3, p4, ((10 : Int32) * q5), ((10 : Int32) * q6))]) X dX1_set_40 ck_X1 ct_X1 0 0 5 rfl rfl (Nat.le_of_ble_eq_true rfl) lkf_X1_33 rfl rfl rfl (Nat.le_of_ble_eq_true rfl) rfl ?_
  have hf := Option.some.inj hf
  subst hf
  exact g_vret X hr dX1_set_43
abbrev rmX1_outcome : Room := ({ frames := 0, cells := 0, slots := 0, locals := 0 } : Room)
def f_X1_outcome_b44 (v0 : SCv) (x4 : Int32) (y0 : Bool) (y1 : Int32) (y2 : Int32) : Option (Int32) :=
  if x4 ≤ (y2 * (y1 + (b2i y0))) then if (y2 * (y1 + (b2i y0))) ≤ x4 then some (0 : Int32) else some (2 : Int32) else some (1 : Int32)
set_option maxRecDepth 100000 in
set_option maxHeartbeats 4000000 in
theorem j_X1_outcome_b44 {p : Program} {l : Launch} {e : Env} {s : State} {m : MethodId} {args : Array Value} {below : List Frame} {meth : Method} {c : Code} {A : Nat → Prop} {D : va_G} {cy : Nat → ClassId} {ad : (Nat → Nat) × (Nat → Nat)} (X : gK p s m args meth c A D cy ad cX1_outcome 6 RX1) (hr : meth.sig.returnType = (some .int)) {h0 : Nat} (v0 : SCv) (x4 : Int32) (y0 : Bool) (y1 : Int32) (y2 : Int32) {q : Int32} (hf : f_X1_outcome_b44 v0 x4 y0 y1 y2 = some q) : GW p l e rmX1_outcome s m args below meth c A D 6 0 0 (MQ below (cmQ D cy A (some (.int q)) ([SC h0 v0] : List va_W).flatten) args s 0 0 A) 44 [(4, .int x4)] [.int (b2i y0), .int y1, .int y2] [SC h0 v0] := by
  unfold f_X1_outcome_b44 at hf
  refine g_iadd X dX1_outcome_44 ?_
  refine g_imul X dX1_outcome_45 ?_
  refine g_istore (lv' := [(4, .int x4), (5, .int (y2 * (y1 + (b2i y0))))]) X dX1_outcome_46 [1, 0] (Nat.le_of_ble_eq_true rfl) rfl ?_
  refine g_iload X dX1_outcome_48 0 rfl ?_
  refine g_iload X dX1_outcome_50 1 rfl ?_
  refine g_icmp_le X 59 dX1_outcome_52 (by decide) (fun c8 => ?_) (fun c8 => ?_)
  · have hf := opos c8 hf
    refine g_iload X dX1_outcome_59 0 rfl ?_
    refine g_iload X dX1_outcome_61 1 rfl ?_
    refine g_icmp_ge X 70 dX1_outcome_63 (by decide) (fun c7 => ?_) (fun c7 => ?_)
    · have hf := opos c7 hf
      refine g_iconst X (0 : Int32) dX1_outcome_70 (by decide) ?_
      have hf := Option.some.inj hf
      subst hf
      exact g_iret X hr dX1_outcome_71
    · have hf := oneg c7 hf
      refine g_iconst X (2 : Int32) dX1_outcome_66 (by decide) ?_
      refine g_goto X 71 dX1_outcome_67 (by decide) ?_
      have hf := Option.some.inj hf
      subst hf
      exact g_iret X hr dX1_outcome_71
  · have hf := oneg c8 hf
    refine g_iconst X (1 : Int32) dX1_outcome_55 (by decide) ?_
    refine g_goto X 71 dX1_outcome_56 (by decide) ?_
    have hf := Option.some.inj hf
    subst hf
    exact g_iret X hr dX1_outcome_71
def f_X1_outcome_b20 (v0 : SCv) (x1 : Int32) (x3 : Int32) (y0 : Bool) (y1 : Int32) (y2 : Int32) : Option (Int32) :=
  if x1 = (2 : Int32) then f_X1_outcome_b44 v0 (y2 * (y1 + (b2i y0))) true (v0.2.2.2.2.2 + x3) v0.2.2.2.1 else f_X1_outcome_b44 v0 (y2 * (y1 + (b2i y0))) false (v0.2.2.2.2.2 + x3) v0.2.2.2.1
set_option maxRecDepth 100000 in
set_option maxHeartbeats 4000000 in
theorem j_X1_outcome_b20 {p : Program} {l : Launch} {e : Env} {s : State} {m : MethodId} {args : Array Value} {below : List Frame} {meth : Method} {c : Code} {A : Nat → Prop} {D : va_G} {cy : Nat → ClassId} {ad : (Nat → Nat) × (Nat → Nat)} (X : gK p s m args meth c A D cy ad cX1_outcome 6 RX1) (hr : meth.sig.returnType = (some .int)) {h0 : Nat} (v0 : SCv) (x1 : Int32) (x3 : Int32) (y0 : Bool) (y1 : Int32) (y2 : Int32) {q : Int32} (hf : f_X1_outcome_b20 v0 x1 x3 y0 y1 y2 = some q) : GW p l e rmX1_outcome s m args below meth c A D 6 0 0 (MQ below (cmQ D cy A (some (.int q)) ([SC h0 v0] : List va_W).flatten) args s 0 0 A) 20 [(0, .ref h0), (1, .int x1), (3, .int x3)] [.int (b2i y0), .int y1, .int y2] [SC h0 v0] := by
  unfold f_X1_outcome_b20 at hf
  refine g_iadd X dX1_outcome_20 ?_
  refine g_imul X dX1_outcome_21 ?_
  refine g_istore (lv' := [(0, .ref h0), (1, .int x1), (3, .int x3), (4, .int (y2 * (y1 + (b2i y0))))]) X dX1_outcome_22 [1, 2, 3, 0] (Nat.le_of_ble_eq_true rfl) rfl ?_
  refine g_aload_n X dX1_outcome_24 0 rfl rfl ?_
  refine g_get X dX1_outcome_25 ck_X1 0 0 3 rfl rfl (Nat.le_of_ble_eq_true rfl) lkf_X1_21 rfl ?_
  refine g_aload_n X dX1_outcome_28 0 rfl rfl ?_
  refine g_get X dX1_outcome_29 ck_X1 0 0 5 rfl rfl (Nat.le_of_ble_eq_true rfl) lkf_X1_33 rfl ?_
  refine g_iload_n X dX1_outcome_32 2 rfl rfl ?_
  refine g_iadd X dX1_outcome_33 ?_
  refine g_iload_n X dX1_outcome_34 1 rfl rfl ?_
  refine g_iconst X (2 : Int32) dX1_outcome_35 (by decide) ?_
  refine g_icmp_ne X 43 dX1_outcome_36 (by decide) (fun c9 => ?_) (fun c9 => ?_)
  · have hf := oneg c9 hf
    refine g_iconst X (0 : Int32) dX1_outcome_43 (by decide) ?_
    refine g_sub [3] (lv' := [(4, .int (y2 * (y1 + (b2i y0))))]) rfl ?_
    exact j_X1_outcome_b44 X hr v0 (y2 * (y1 + (b2i y0))) false (v0.2.2.2.2.2 + x3) v0.2.2.2.1 hf
  · have hf := opos c9 hf
    refine g_iconst X (1 : Int32) dX1_outcome_39 (by decide) ?_
    refine g_goto X 44 dX1_outcome_40 (by decide) ?_
    refine g_sub [3] (lv' := [(4, .int (y2 * (y1 + (b2i y0))))]) rfl ?_
    exact j_X1_outcome_b44 X hr v0 (y2 * (y1 + (b2i y0))) true (v0.2.2.2.2.2 + x3) v0.2.2.2.1 hf
def f_X1_outcome (v0 : SCv) (p1 : Int32) (p2 : Int32) (p3 : Int32) : Option (Int32) :=
  if p1 = (1 : Int32) then f_X1_outcome_b20 v0 p1 p3 true (v0.2.2.2.2.1 + p2) v0.2.2.1 else f_X1_outcome_b20 v0 p1 p3 false (v0.2.2.2.2.1 + p2) v0.2.2.1
set_option maxRecDepth 100000 in
set_option maxHeartbeats 4000000 in
theorem c_X1_outcome (l : Launch) (D : va_G) (cy : Nat → ClassId) (ad : (Nat → Nat) × (Nat → Nat)) (h0 : Nat) (v0 : SCv) (p1 : Int32) (p2 : Int32) (p3 : Int32) {q : Int32} (hf : f_X1_outcome v0 p1 p2 p3 = some q) : CM l yX1_outcome cX1_outcome 6 (some .int) rmX1_outcome D cy ad [.ref h0, .int p1, .int p2, .int p3] [SC h0 v0] (some (.int q)) [SC h0 v0] := by
  refine cm_of (lv0 := [(0, .ref h0), (1, .int p1), (2, .int p2), (3, .int p3)]) (by decide) (Nat.le_of_ble_eq_true rfl) rfl ?_
  intro p e s m args below meth c A X hr hn
  have X : gK p s m args meth c A D cy ad cX1_outcome 6 RX1 := X
  unfold f_X1_outcome at hf
  refine g_aload_n X dX1_outcome_0 0 rfl rfl ?_
  refine g_get X dX1_outcome_1 ck_X1 0 0 2 rfl rfl (Nat.le_of_ble_eq_true rfl) lkf_X1_18 rfl ?_
  refine g_aload_n X dX1_outcome_4 0 rfl rfl ?_
  refine g_get X dX1_outcome_5 ck_X1 0 0 4 rfl rfl (Nat.le_of_ble_eq_true rfl) lkf_X1_30 rfl ?_
  refine g_iload_n X dX1_outcome_8 2 rfl rfl ?_
  refine g_iadd X dX1_outcome_9 ?_
  refine g_iload_n X dX1_outcome_10 1 rfl rfl ?_
  refine g_iconst X (1 : Int32) dX1_outcome_11 (by decide) ?_
  refine g_icmp_ne X 19 dX1_outcome_12 (by decide) (fun c10 => ?_) (fun c10 => ?_)
  · have hf := oneg c10 hf
    refine g_iconst X (0 : Int32) dX1_outcome_19 (by decide) ?_
    refine g_sub [0, 1, 3] (lv' := [(0, .ref h0), (1, .int p1), (3, .int p3)]) rfl ?_
    exact j_X1_outcome_b20 X hr v0 p1 p3 false (v0.2.2.2.2.1 + p2) v0.2.2.1 hf
  · have hf := opos c10 hf
    refine g_iconst X (1 : Int32) dX1_outcome_15 (by decide) ?_
    refine g_goto X 20 dX1_outcome_16 (by decide) ?_
    refine g_sub [0, 1, 3] (lv' := [(0, .ref h0), (1, .int p1), (3, .int p3)]) rfl ?_
    exact j_X1_outcome_b20 X hr v0 p1 p3 true (v0.2.2.2.2.1 + p2) v0.2.2.1 hf
abbrev rmX1_outcomeInCase : Room := ({ frames := 1, cells := 0, slots := 0, locals := 25 } : Room)
def f_X1_outcomeInCase_b57 (v0 : SCv) (y0 : Int32) (y1 : Int32) (y2 : Int32) : Option (Int32) :=
  (f_X1_outcome v0 y2 y1 y0).bind (fun q13 => some q13)
set_option maxRecDepth 100000 in
set_option maxHeartbeats 4000000 in
theorem j_X1_outcomeInCase_b57 {p : Program} {l : Launch} {e : Env} {s : State} {m : MethodId} {args : Array Value} {below : List Frame} {meth : Method} {c : Code} {A : Nat → Prop} {D : va_G} {cy : Nat → ClassId} {ad : (Nat → Nat) × (Nat → Nat)} (X : gK p s m args meth c A D cy ad cX1_outcomeInCase 5 RX1) (hr : meth.sig.returnType = (some .int)) {h0 : Nat} (v0 : SCv) (y0 : Int32) (y1 : Int32) (y2 : Int32) {q : Int32} (hf : f_X1_outcomeInCase_b57 v0 y0 y1 y2 = some q) : GW p l e rmX1_outcomeInCase s m args below meth c A D 5 0 0 (MQ below (cmQ D cy A (some (.int q)) ([SC h0 v0] : List va_W).flatten) args s 0 0 A) 57 [] [.int y0, .int y1, .int y2, .ref h0] [SC h0 v0] := by
  unfold f_X1_outcomeInCase_b57 at hf
  obtain ⟨q13, hq13, hf⟩ := obind hf
  refine g_callV (gs' := [SC h0 v0]) (rest := []) X dX1_outcomeInCase_57 (c_X1_outcome l D cy ad h0 v0 y2 y1 y0 hq13) mf_X1_outcome mv_X1_outcome lkm_X1_36 ⟨(Nat.le_of_ble_eq_true rfl), (Nat.le_of_ble_eq_true rfl), (Nat.le_of_ble_eq_true rfl), (Nat.le_of_ble_eq_true rfl)⟩ 0 0 rfl rfl rfl rfl [0] _ (by decide : [0].Perm (List.range 1)) rfl (by decide : [0].Perm (List.range 1)) rfl (Nat.le_of_ble_eq_true rfl) rfl ?_
  have hf := Option.some.inj hf
  subst hf
  exact g_iret X hr dX1_outcomeInCase_60
def f_X1_outcomeInCase_b42 (v0 : SCv) (x3 : Int32) (x4 : Int32) (y0 : Int32) (y1 : Int32) : Option (Int32) :=
  if (v0.2.1 &&& x4) = 0 then f_X1_outcomeInCase_b57 v0 (0 : Int32) y0 y1 else f_X1_outcomeInCase_b57 v0 x3 y0 y1
set_option maxRecDepth 100000 in
set_option maxHeartbeats 4000000 in
theorem j_X1_outcomeInCase_b42 {p : Program} {l : Launch} {e : Env} {s : State} {m : MethodId} {args : Array Value} {below : List Frame} {meth : Method} {c : Code} {A : Nat → Prop} {D : va_G} {cy : Nat → ClassId} {ad : (Nat → Nat) × (Nat → Nat)} (X : gK p s m args meth c A D cy ad cX1_outcomeInCase 5 RX1) (hr : meth.sig.returnType = (some .int)) {h0 : Nat} (v0 : SCv) (x3 : Int32) (x4 : Int32) (y0 : Int32) (y1 : Int32) {q : Int32} (hf : f_X1_outcomeInCase_b42 v0 x3 x4 y0 y1 = some q) : GW p l e rmX1_outcomeInCase s m args below meth c A D 5 0 0 (MQ below (cmQ D cy A (some (.int q)) ([SC h0 v0] : List va_W).flatten) args s 0 0 A) 42 [(0, .ref h0), (3, .int x3), (4, .int x4)] [.int y0, .int y1, .ref h0] [SC h0 v0] := by
  unfold f_X1_outcomeInCase_b42 at hf
  refine g_aload_n X dX1_outcomeInCase_42 0 rfl rfl ?_
  refine g_get X dX1_outcomeInCase_43 ck_X1 0 0 1 rfl rfl (Nat.le_of_ble_eq_true rfl) lkf_X1_15 rfl ?_
  refine g_iload X dX1_outcomeInCase_46 2 rfl ?_
  refine g_iand X dX1_outcomeInCase_48 ?_
  refine g_if_eq X 56 dX1_outcomeInCase_49 (by decide) (fun c14 => ?_) (fun c14 => ?_)
  · have hf := opos c14 hf
    refine g_iconst X (0 : Int32) dX1_outcomeInCase_56 (by decide) ?_
    refine g_sub [] (lv' := []) rfl ?_
    exact j_X1_outcomeInCase_b57 X hr v0 (0 : Int32) y0 y1 hf
  · have hf := oneg c14 hf
    refine g_iload_n X dX1_outcomeInCase_52 1 rfl rfl ?_
    refine g_goto X 57 dX1_outcomeInCase_53 (by decide) ?_
    refine g_sub [] (lv' := []) rfl ?_
    exact j_X1_outcomeInCase_b57 X hr v0 x3 y0 y1 hf
def f_X1_outcomeInCase_b15 (v0 : SCv) (x1 : Int32) (x2 : Int32) (y0 : Int32) : Option (Int32) :=
  if (v0.1 &&& ((1 : Int32) <<< ((x2 / (2 : Int32)) &&& 31))) = 0 then f_X1_outcomeInCase_b42 v0 y0 ((1 : Int32) <<< ((x2 / (2 : Int32)) &&& 31)) (0 : Int32) (x1 - x1 / (3 : Int32) * (3 : Int32)) else f_X1_outcomeInCase_b42 v0 y0 ((1 : Int32) <<< ((x2 / (2 : Int32)) &&& 31)) y0 (x1 - x1 / (3 : Int32) * (3 : Int32))
set_option maxRecDepth 100000 in
set_option maxHeartbeats 4000000 in
theorem j_X1_outcomeInCase_b15 {p : Program} {l : Launch} {e : Env} {s : State} {m : MethodId} {args : Array Value} {below : List Frame} {meth : Method} {c : Code} {A : Nat → Prop} {D : va_G} {cy : Nat → ClassId} {ad : (Nat → Nat) × (Nat → Nat)} (X : gK p s m args meth c A D cy ad cX1_outcomeInCase 5 RX1) (hr : meth.sig.returnType = (some .int)) {h0 : Nat} (v0 : SCv) (x1 : Int32) (x2 : Int32) (y0 : Int32) {q : Int32} (hf : f_X1_outcomeInCase_b15 v0 x1 x2 y0 = some q) : GW p l e rmX1_outcomeInCase s m args below meth c A D 5 0 0 (MQ below (cmQ D cy A (some (.int q)) ([SC h0 v0] : List va_W).flatten) args s 0 0 A) 15 [(0, .ref h0), (1, .int x1), (2, .int x2)] [.int y0] [SC h0 v0] := by
  unfold f_X1_outcomeInCase_b15 at hf
  refine g_istore_n (lv' := [(0, .ref h0), (1, .int x1), (2, .int x2), (3, .int y0)]) X dX1_outcomeInCase_15 [1, 2, 3, 0] rfl (Nat.le_of_ble_eq_true rfl) rfl ?_
  refine g_iconst X (1 : Int32) dX1_outcomeInCase_16 (by decide) ?_
  refine g_iload_n X dX1_outcomeInCase_17 2 rfl rfl ?_
  refine g_iconst X (2 : Int32) dX1_outcomeInCase_18 (by decide) ?_
  refine g_idiv X dX1_outcomeInCase_19 (by decide) ?_
  refine g_ishl X dX1_outcomeInCase_20 ?_
  refine g_istore (lv' := [(0, .ref h0), (1, .int x1), (2, .int x2), (3, .int y0), (4, .int ((1 : Int32) <<< ((x2 / (2 : Int32)) &&& 31)))]) X dX1_outcomeInCase_21 [1, 2, 3, 4, 0] (Nat.le_of_ble_eq_true rfl) rfl ?_
  refine g_aload_n X dX1_outcomeInCase_23 0 rfl rfl ?_
  refine g_iload_n X dX1_outcomeInCase_24 1 rfl rfl ?_
  refine g_iconst X (3 : Int32) dX1_outcomeInCase_25 (by decide) ?_
  refine g_irem X dX1_outcomeInCase_26 (by decide) ?_
  refine g_aload_n X dX1_outcomeInCase_27 0 rfl rfl ?_
  refine g_get X dX1_outcomeInCase_28 ck_X1 0 0 0 rfl rfl (Nat.le_of_ble_eq_true rfl) lkf_X1_9 rfl ?_
  refine g_iload X dX1_outcomeInCase_31 4 rfl ?_
  refine g_iand X dX1_outcomeInCase_33 ?_
  refine g_if_eq X 41 dX1_outcomeInCase_34 (by decide) (fun c15 => ?_) (fun c15 => ?_)
  · have hf := opos c15 hf
    refine g_iconst X (0 : Int32) dX1_outcomeInCase_41 (by decide) ?_
    refine g_sub [0, 3, 4] (lv' := [(0, .ref h0), (3, .int y0), (4, .int ((1 : Int32) <<< ((x2 / (2 : Int32)) &&& 31)))]) rfl ?_
    exact j_X1_outcomeInCase_b42 X hr v0 y0 ((1 : Int32) <<< ((x2 / (2 : Int32)) &&& 31)) (0 : Int32) (x1 - x1 / (3 : Int32) * (3 : Int32)) hf
  · have hf := oneg c15 hf
    refine g_iload_n X dX1_outcomeInCase_37 3 rfl rfl ?_
    refine g_goto X 42 dX1_outcomeInCase_38 (by decide) ?_
    refine g_sub [0, 3, 4] (lv' := [(0, .ref h0), (3, .int y0), (4, .int ((1 : Int32) <<< ((x2 / (2 : Int32)) &&& 31)))]) rfl ?_
    exact j_X1_outcomeInCase_b42 X hr v0 y0 ((1 : Int32) <<< ((x2 / (2 : Int32)) &&& 31)) y0 (x1 - x1 / (3 : Int32) * (3 : Int32)) hf
def f_X1_outcomeInCase (v0 : SCv) (p1 : Int32) : Option (Int32) :=
  if ((p1 / (3 : Int32)) - (p1 / (3 : Int32)) / (2 : Int32) * (2 : Int32)) = 0 then f_X1_outcomeInCase_b15 v0 p1 (p1 / (3 : Int32)) (-1 : Int32) else f_X1_outcomeInCase_b15 v0 p1 (p1 / (3 : Int32)) (1 : Int32)
set_option maxRecDepth 100000 in
set_option maxHeartbeats 4000000 in
theorem c_X1_outcomeInCase (l : Launch) (D : va_G) (cy : Nat → ClassId) (ad : (Nat → Nat) × (Nat → Nat)) (h0 : Nat) (v0 : SCv) (p1 : Int32) {q : Int32} (hf : f_X1_outcomeInCase v0 p1 = some q) : CM l yX1_outcomeInCase cX1_outcomeInCase 5 (some .int) rmX1_outcomeInCase D cy ad [.ref h0, .int p1] [SC h0 v0] (some (.int q)) [SC h0 v0] := by
  refine cm_of (lv0 := [(0, .ref h0), (1, .int p1)]) (by decide) (Nat.le_of_ble_eq_true rfl) rfl ?_
  intro p e s m args below meth c A X hr hn
  have X : gK p s m args meth c A D cy ad cX1_outcomeInCase 5 RX1 := X
  unfold f_X1_outcomeInCase at hf
  refine g_iload_n X dX1_outcomeInCase_0 1 rfl rfl ?_
  refine g_iconst X (3 : Int32) dX1_outcomeInCase_1 (by decide) ?_
  refine g_idiv X dX1_outcomeInCase_2 (by decide) ?_
  refine g_istore_n (lv' := [(0, .ref h0), (1, .int p1), (2, .int (p1 / (3 : Int32)))]) X dX1_outcomeInCase_3 [1, 2, 0] rfl (Nat.le_of_ble_eq_true rfl) rfl ?_
  refine g_iload_n X dX1_outcomeInCase_4 2 rfl rfl ?_
  refine g_iconst X (2 : Int32) dX1_outcomeInCase_5 (by decide) ?_
  refine g_irem X dX1_outcomeInCase_6 (by decide) ?_
  refine g_if_ne X 14 dX1_outcomeInCase_7 (by decide) (fun c16 => ?_) (fun c16 => ?_)
  · have hf := oneg c16 hf
    refine g_iconst X (1 : Int32) dX1_outcomeInCase_14 (by decide) ?_
    exact j_X1_outcomeInCase_b15 X hr v0 p1 (p1 / (3 : Int32)) (1 : Int32) hf
  · have hf := opos c16 hf
    refine g_iconst X (-1 : Int32) dX1_outcomeInCase_10 (by decide) ?_
    refine g_goto X 15 dX1_outcomeInCase_11 (by decide) ?_
    exact j_X1_outcomeInCase_b15 X hr v0 p1 (p1 / (3 : Int32)) (-1 : Int32) hf
abbrev rmX3_copyFrom : Room := ({ frames := 0, cells := 0, slots := 0, locals := 0 } : Room)
def f_X3_copyFrom_B2 (w0 : Fn) (z : Int32 × Fn) : Option ((Int32 × Fn) ⊕ ((Fn))) :=
  if (6 : Int32) ≤ z.1 then some (.inr ((z.2))) else if (6 : Int32) ≤ z.1 then some (.inr ((z.2))) else if z.1 < 0 ∨ 6 ≤ z.1.toNatClampNeg then none else if z.1 < 0 ∨ 6 ≤ z.1.toNatClampNeg then none else some (.inl ((z.1 + (1 : Int32)), (upd z.2 z.1.toNatClampNeg (w0 z.1.toNatClampNeg))))
set_option maxRecDepth 100000 in
set_option maxHeartbeats 4000000 in
theorem b_X3_copyFrom_B2 {p : Program} {l : Launch} {e : Env} {s : State} {m : MethodId} {args : Array Value} {below : List Frame} {meth : Method} {c : Code} {A : Nat → Prop} {D : va_G} {cy : Nat → ClassId} {ad : (Nat → Nat) × (Nat → Nat)} {Q : State → Prop} (X : gK p s m args meth c A D cy ad cX3_copyFrom 3 RX3) (hr : meth.sig.returnType = none) {h0 h1 g0 g0s : Nat} (w0 : Fn) (z : Int32 × Fn) {q : (Int32 × Fn) ⊕ ((Fn))} (hf : f_X3_copyFrom_B2 w0 z = some q) (K1 : ∀ s' : Int32 × Fn, q = .inl s' → GW p l e rmX3_copyFrom s m args below meth c A D 3 0 0 Q 2 [(0, .ref h0), (1, .ref g0), (2, .int s'.1)] [] [SU cy h0 h1 s'.2, SU cy g0 g0s w0]) (K2 : ∀ e' : Fn, q = .inr (e') → GW p l e rmX3_copyFrom s m args below meth c A D 3 0 0 Q 38 [] [] [SU cy h0 h1 e', SU cy g0 g0s w0]) : GW p l e rmX3_copyFrom s m args below meth c A D 3 0 0 Q 2 [(0, .ref h0), (1, .ref g0), (2, .int z.1)] [] [SU cy h0 h1 z.2, SU cy g0 g0s w0] := by
  unfold f_X3_copyFrom_B2 at hf
  refine g_iload_n X dX3_copyFrom_2 2 rfl rfl ?_
  refine g_aload_n X dX3_copyFrom_3 0 rfl rfl ?_
  refine g_get X dX3_copyFrom_4 ck_X3 0 0 0 rfl rfl (Nat.le_of_ble_eq_true rfl) lkf_X3_9 rfl ?_
  refine g_alen0 (v := (6 : Int32)) X dX3_copyFrom_7 0 1 rfl rfl (by decide : Int32.ofNat 6 = (6 : Int32)) ?_
  refine g_icmp_ge X 38 dX3_copyFrom_8 (by decide) (fun c20 => ?_) (fun c20 => ?_)
  · have hf := opos c20 hf
    refine g_sub [] (lv' := []) rfl ?_
    exact K2 (z.2) (Option.some.inj hf).symm
  · have hf := oneg c20 hf
    refine g_iload_n X dX3_copyFrom_11 2 rfl rfl ?_
    refine g_aload_n X dX3_copyFrom_12 1 rfl rfl ?_
    refine g_get X dX3_copyFrom_13 ck_X3 1 0 0 rfl rfl (Nat.le_of_ble_eq_true rfl) lkf_X3_9 rfl ?_
    refine g_alen0 (v := (6 : Int32)) X dX3_copyFrom_16 1 1 rfl rfl (by decide : Int32.ofNat 6 = (6 : Int32)) ?_
    refine g_icmp_ge X 38 dX3_copyFrom_17 (by decide) (fun c19 => ?_) (fun c19 => ?_)
    · have hf := opos c19 hf
      refine g_sub [] (lv' := []) rfl ?_
      exact K2 (z.2) (Option.some.inj hf).symm
    · have hf := oneg c19 hf
      refine g_aload_n X dX3_copyFrom_20 0 rfl rfl ?_
      refine g_get X dX3_copyFrom_21 ck_X3 0 0 0 rfl rfl (Nat.le_of_ble_eq_true rfl) lkf_X3_9 rfl ?_
      refine g_iload_n X dX3_copyFrom_24 2 rfl rfl ?_
      refine g_aload_n X dX3_copyFrom_25 1 rfl rfl ?_
      refine g_get X dX3_copyFrom_26 ck_X3 1 0 0 rfl rfl (Nat.le_of_ble_eq_true rfl) lkf_X3_9 rfl ?_
      refine g_iload_n X dX3_copyFrom_29 2 rfl rfl ?_
      obtain ⟨n17, hf⟩ := oguard hf
      refine g_iaload X dX3_copyFrom_30 1 1 rfl rfl n17 ?_
      obtain ⟨n18, hf⟩ := oguard hf
      refine g_iastore (gs' := [SU cy h0 h1 (upd z.2 z.1.toNatClampNeg (w0 z.1.toNatClampNeg)), SU cy g0 g0s w0]) X dX3_copyFrom_31 0 1 rfl rfl n18 rfl ?_
      refine g_iinc (lv' := [(0, .ref h0), (1, .ref g0), (2, .int (z.1 + (1 : Int32)))]) (v := (1 : Int32)) X dX3_copyFrom_32 2 rfl (by decide) [1, 2, 0] (Nat.le_of_ble_eq_true rfl) rfl ?_
      refine g_goto X 2 dX3_copyFrom_35 (by decide) ?_
      exact K1 ((z.1 + (1 : Int32)), (upd z.2 z.1.toNatClampNeg (w0 z.1.toNatClampNeg))) (Option.some.inj hf).symm
set_option maxRecDepth 100000 in
set_option maxHeartbeats 4000000 in
theorem w_X3_copyFrom_B2 {p : Program} {l : Launch} {e : Env} {s : State} {m : MethodId} {args : Array Value} {below : List Frame} {meth : Method} {c : Code} {A : Nat → Prop} {D : va_G} {cy : Nat → ClassId} {ad : (Nat → Nat) × (Nat → Nat)} {Q : State → Prop} (X : gK p s m args meth c A D cy ad cX3_copyFrom 3 RX3) (hr : meth.sig.returnType = none) {h0 h1 g0 g0s : Nat} (w0 : Fn) {n : Nat} {z : Int32 × Fn} {q : (Fn)} (hf : itl (f_X3_copyFrom_B2 w0) n z = some q) (K2 : GW p l e rmX3_copyFrom s m args below meth c A D 3 0 0 Q 38 [] [] [SU cy h0 h1 q, SU cy g0 g0s w0]) : GW p l e rmX3_copyFrom s m args below meth c A D 3 0 0 Q 2 [(0, .ref h0), (1, .ref g0), (2, .int z.1)] [] [SU cy h0 h1 z.2, SU cy g0 g0s w0] :=
  itl_ind (f := f_X3_copyFrom_B2 w0) (I := fun z => GW p l e rmX3_copyFrom s m args below meth c A D 3 0 0 Q 2 [(0, .ref h0), (1, .ref g0), (2, .int z.1)] [] [SU cy h0 h1 z.2, SU cy g0 g0s w0]) (J := (fun q => GW p l e rmX3_copyFrom s m args below meth c A D 3 0 0 Q 38 [] [] [SU cy h0 h1 q, SU cy g0 g0s w0])) (fun z x h k1 k2 => b_X3_copyFrom_B2 X hr w0 z h (fun s' hs => k1 s' hs) (fun e' he => k2 e' he)) n z q hf K2
def f_X3_copyFrom (v0 : Fn) (w0 : Fn) : Option (Fn) :=
  (itl (f_X3_copyFrom_B2 w0) FU ((0 : Int32), v0)).bind (fun q21 => some q21)
set_option maxRecDepth 100000 in
set_option maxHeartbeats 4000000 in
theorem c_X3_copyFrom (l : Launch) (D : va_G) (cy : Nat → ClassId) (ad : (Nat → Nat) × (Nat → Nat)) (h0 : Nat) (h1 : Nat) (g0 : Nat) (g0s : Nat) (v0 : Fn) (w0 : Fn) {q : Fn} (hf : f_X3_copyFrom v0 w0 = some q) : CM l yX3_copyFrom cX3_copyFrom 3 none rmX3_copyFrom D cy ad [.ref h0, .ref g0] [SU cy h0 h1 v0, SU cy g0 g0s w0] none [SU cy h0 h1 q, SU cy g0 g0s w0] := by
  refine cm_of (lv0 := [(0, .ref h0), (1, .ref g0)]) (by decide) (Nat.le_of_ble_eq_true rfl) rfl ?_
  intro p e s m args below meth c A X hr hn
  have X : gK p s m args meth c A D cy ad cX3_copyFrom 3 RX3 := X
  unfold f_X3_copyFrom at hf
  refine g_iconst X (0 : Int32) dX3_copyFrom_0 (by decide) ?_
  refine g_istore_n (lv' := [(0, .ref h0), (1, .ref g0), (2, .int (0 : Int32))]) X dX3_copyFrom_1 [1, 2, 0] rfl (Nat.le_of_ble_eq_true rfl) rfl ?_
  obtain ⟨q21, hq21, hf⟩ := obind hf
  refine w_X3_copyFrom_B2 X hr w0 hq21 ?_
  have hf := Option.some.inj hf
  subst hf
  exact g_vret X hr dX3_copyFrom_38
abbrev rmX3_suspectAll : Room := ({ frames := 0, cells := 0, slots := 0, locals := 0 } : Room)
def f_X3_suspectAll_B8_b37 (v0 : Fn) (x1 : Int32) (x2 : Int32) (x3 : Int32) (y0 : Int32) (y1 : Int32) : Option ((Int32 × Fn) ⊕ ((Fn))) :=
  if y1 < 0 ∨ 6 ≤ y1.toNatClampNeg then none else some (.inl ((x3 + (1 : Int32)), (upd v0 y1.toNatClampNeg y0)))
set_option maxRecDepth 100000 in
set_option maxHeartbeats 4000000 in
theorem j_X3_suspectAll_B8_b37 {p : Program} {l : Launch} {e : Env} {s : State} {m : MethodId} {args : Array Value} {below : List Frame} {meth : Method} {c : Code} {A : Nat → Prop} {D : va_G} {cy : Nat → ClassId} {ad : (Nat → Nat) × (Nat → Nat)} {Q : State → Prop} (X : gK p s m args meth c A D cy ad cX3_suspectAll 4 RX3) (hr : meth.sig.returnType = none) {h0 h1 : Nat} (v0 : Fn) (x1 : Int32) (x2 : Int32) (x3 : Int32) (y0 : Int32) (y1 : Int32) {q : (Int32 × Fn) ⊕ ((Fn))} (hf : f_X3_suspectAll_B8_b37 v0 x1 x2 x3 y0 y1 = some q) (K1 : ∀ s' : Int32 × Fn, q = .inl s' → GW p l e rmX3_suspectAll s m args below meth c A D 4 0 0 Q 8 [(0, .ref h0), (1, .int x1), (2, .int x2), (3, .int s'.1)] [] [SU cy h0 h1 s'.2]) (K2 : ∀ e' : Fn, q = .inr (e') → GW p l e rmX3_suspectAll s m args below meth c A D 4 0 0 Q 44 [] [] [SU cy h0 h1 e']) : GW p l e rmX3_suspectAll s m args below meth c A D 4 0 0 Q 37 [(0, .ref h0), (1, .int x1), (2, .int x2), (3, .int x3)] [.int y0, .int y1, .ref h1] [SU cy h0 h1 v0] := by
  unfold f_X3_suspectAll_B8_b37 at hf
  obtain ⟨n22, hf⟩ := oguard hf
  refine g_iastore (gs' := [SU cy h0 h1 (upd v0 y1.toNatClampNeg y0)]) X dX3_suspectAll_37 0 1 rfl rfl n22 rfl ?_
  refine g_iinc (lv' := [(0, .ref h0), (1, .int x1), (2, .int x2), (3, .int (x3 + (1 : Int32)))]) (v := (1 : Int32)) X dX3_suspectAll_38 3 rfl (by decide) [1, 2, 3, 0] (Nat.le_of_ble_eq_true rfl) rfl ?_
  refine g_goto X 8 dX3_suspectAll_41 (by decide) ?_
  exact K1 ((x3 + (1 : Int32)), (upd v0 y1.toNatClampNeg y0)) (Option.some.inj hf).symm
def f_X3_suspectAll_B8 (x1 : Int32) (x2 : Int32) (z : Int32 × Fn) : Option ((Int32 × Fn) ⊕ ((Fn))) :=
  if (6 : Int32) ≤ z.1 then some (.inr ((z.2))) else if (z.1 - z.1 / (2 : Int32) * (2 : Int32)) = 0 then f_X3_suspectAll_B8_b37 z.2 x1 x2 z.1 (x2 ||| ((1 : Int32) <<< (x1 &&& 31))) z.1 else f_X3_suspectAll_B8_b37 z.2 x1 x2 z.1 x2 z.1
set_option maxRecDepth 100000 in
set_option maxHeartbeats 4000000 in
theorem b_X3_suspectAll_B8 {p : Program} {l : Launch} {e : Env} {s : State} {m : MethodId} {args : Array Value} {below : List Frame} {meth : Method} {c : Code} {A : Nat → Prop} {D : va_G} {cy : Nat → ClassId} {ad : (Nat → Nat) × (Nat → Nat)} {Q : State → Prop} (X : gK p s m args meth c A D cy ad cX3_suspectAll 4 RX3) (hr : meth.sig.returnType = none) {h0 h1 : Nat} (x1 : Int32) (x2 : Int32) (z : Int32 × Fn) {q : (Int32 × Fn) ⊕ ((Fn))} (hf : f_X3_suspectAll_B8 x1 x2 z = some q) (K1 : ∀ s' : Int32 × Fn, q = .inl s' → GW p l e rmX3_suspectAll s m args below meth c A D 4 0 0 Q 8 [(0, .ref h0), (1, .int x1), (2, .int x2), (3, .int s'.1)] [] [SU cy h0 h1 s'.2]) (K2 : ∀ e' : Fn, q = .inr (e') → GW p l e rmX3_suspectAll s m args below meth c A D 4 0 0 Q 44 [] [] [SU cy h0 h1 e']) : GW p l e rmX3_suspectAll s m args below meth c A D 4 0 0 Q 8 [(0, .ref h0), (1, .int x1), (2, .int x2), (3, .int z.1)] [] [SU cy h0 h1 z.2] := by
  unfold f_X3_suspectAll_B8 at hf
  refine g_iload_n X dX3_suspectAll_8 3 rfl rfl ?_
  refine g_aload_n X dX3_suspectAll_9 0 rfl rfl ?_
  refine g_get X dX3_suspectAll_10 ck_X3 0 0 0 rfl rfl (Nat.le_of_ble_eq_true rfl) lkf_X3_9 rfl ?_
  refine g_alen0 (v := (6 : Int32)) X dX3_suspectAll_13 0 1 rfl rfl (by decide : Int32.ofNat 6 = (6 : Int32)) ?_
  refine g_icmp_ge X 44 dX3_suspectAll_14 (by decide) (fun c24 => ?_) (fun c24 => ?_)
  · have hf := opos c24 hf
    refine g_sub [] (lv' := []) rfl ?_
    exact K2 (z.2) (Option.some.inj hf).symm
  · have hf := oneg c24 hf
    refine g_aload_n X dX3_suspectAll_17 0 rfl rfl ?_
    refine g_get X dX3_suspectAll_18 ck_X3 0 0 0 rfl rfl (Nat.le_of_ble_eq_true rfl) lkf_X3_9 rfl ?_
    refine g_iload_n X dX3_suspectAll_21 3 rfl rfl ?_
    refine g_iload_n X dX3_suspectAll_22 3 rfl rfl ?_
    refine g_iconst X (2 : Int32) dX3_suspectAll_23 (by decide) ?_
    refine g_irem X dX3_suspectAll_24 (by decide) ?_
    refine g_if_ne X 36 dX3_suspectAll_25 (by decide) (fun c23 => ?_) (fun c23 => ?_)
    · have hf := oneg c23 hf
      refine g_iload_n X dX3_suspectAll_36 2 rfl rfl ?_
      exact j_X3_suspectAll_B8_b37 X hr z.2 x1 x2 z.1 x2 z.1 hf K1 K2
    · have hf := opos c23 hf
      refine g_iload_n X dX3_suspectAll_28 2 rfl rfl ?_
      refine g_iconst X (1 : Int32) dX3_suspectAll_29 (by decide) ?_
      refine g_iload_n X dX3_suspectAll_30 1 rfl rfl ?_
      refine g_ishl X dX3_suspectAll_31 ?_
      refine g_ior X dX3_suspectAll_32 ?_
      refine g_goto X 37 dX3_suspectAll_33 (by decide) ?_
      exact j_X3_suspectAll_B8_b37 X hr z.2 x1 x2 z.1 (x2 ||| ((1 : Int32) <<< (x1 &&& 31))) z.1 hf K1 K2
set_option maxRecDepth 100000 in
set_option maxHeartbeats 4000000 in
theorem w_X3_suspectAll_B8 {p : Program} {l : Launch} {e : Env} {s : State} {m : MethodId} {args : Array Value} {below : List Frame} {meth : Method} {c : Code} {A : Nat → Prop} {D : va_G} {cy : Nat → ClassId} {ad : (Nat → Nat) × (Nat → Nat)} {Q : State → Prop} (X : gK p s m args meth c A D cy ad cX3_suspectAll 4 RX3) (hr : meth.sig.returnType = none) {h0 h1 : Nat} (x1 : Int32) (x2 : Int32) {n : Nat} {z : Int32 × Fn} {q : (Fn)} (hf : itl (f_X3_suspectAll_B8 x1 x2) n z = some q) (K2 : GW p l e rmX3_suspectAll s m args below meth c A D 4 0 0 Q 44 [] [] [SU cy h0 h1 q]) : GW p l e rmX3_suspectAll s m args below meth c A D 4 0 0 Q 8 [(0, .ref h0), (1, .int x1), (2, .int x2), (3, .int z.1)] [] [SU cy h0 h1 z.2] :=
  itl_ind (f := f_X3_suspectAll_B8 x1 x2) (I := fun z => GW p l e rmX3_suspectAll s m args below meth c A D 4 0 0 Q 8 [(0, .ref h0), (1, .int x1), (2, .int x2), (3, .int z.1)] [] [SU cy h0 h1 z.2]) (J := (fun q => GW p l e rmX3_suspectAll s m args below meth c A D 4 0 0 Q 44 [] [] [SU cy h0 h1 q])) (fun z x h k1 k2 => b_X3_suspectAll_B8 X hr x1 x2 z h (fun s' hs => k1 s' hs) (fun e' he => k2 e' he)) n z q hf K2
def f_X3_suspectAll (v0 : Fn) (p1 : Int32) : Option (Fn) :=
  (itl (f_X3_suspectAll_B8 p1 (((1 : Int32) <<< (p1 &&& 31)) - (1 : Int32))) FU ((0 : Int32), v0)).bind (fun q25 => some q25)
set_option maxRecDepth 100000 in
set_option maxHeartbeats 4000000 in
theorem c_X3_suspectAll (l : Launch) (D : va_G) (cy : Nat → ClassId) (ad : (Nat → Nat) × (Nat → Nat)) (h0 : Nat) (h1 : Nat) (v0 : Fn) (p1 : Int32) {q : Fn} (hf : f_X3_suspectAll v0 p1 = some q) : CM l yX3_suspectAll cX3_suspectAll 4 none rmX3_suspectAll D cy ad [.ref h0, .int p1] [SU cy h0 h1 v0] none [SU cy h0 h1 q] := by
  refine cm_of (lv0 := [(0, .ref h0), (1, .int p1)]) (by decide) (Nat.le_of_ble_eq_true rfl) rfl ?_
  intro p e s m args below meth c A X hr hn
  have X : gK p s m args meth c A D cy ad cX3_suspectAll 4 RX3 := X
  unfold f_X3_suspectAll at hf
  refine g_iconst X (1 : Int32) dX3_suspectAll_0 (by decide) ?_
  refine g_iload_n X dX3_suspectAll_1 1 rfl rfl ?_
  refine g_ishl X dX3_suspectAll_2 ?_
  refine g_iconst X (1 : Int32) dX3_suspectAll_3 (by decide) ?_
  refine g_isub X dX3_suspectAll_4 ?_
  refine g_istore_n (lv' := [(0, .ref h0), (1, .int p1), (2, .int (((1 : Int32) <<< (p1 &&& 31)) - (1 : Int32)))]) X dX3_suspectAll_5 [1, 2, 0] rfl (Nat.le_of_ble_eq_true rfl) rfl ?_
  refine g_iconst X (0 : Int32) dX3_suspectAll_6 (by decide) ?_
  refine g_istore_n (lv' := [(0, .ref h0), (1, .int p1), (2, .int (((1 : Int32) <<< (p1 &&& 31)) - (1 : Int32))), (3, .int (0 : Int32))]) X dX3_suspectAll_7 [1, 2, 3, 0] rfl (Nat.le_of_ble_eq_true rfl) rfl ?_
  obtain ⟨q25, hq25, hf⟩ := obind hf
  refine w_X3_suspectAll_B8 X hr p1 (((1 : Int32) <<< (p1 &&& 31)) - (1 : Int32)) hq25 ?_
  have hf := Option.some.inj hf
  subst hf
  exact g_vret X hr dX3_suspectAll_44
abbrev rmX3_has : Room := ({ frames := 0, cells := 0, slots := 0, locals := 0 } : Room)
def f_X3_has_b14 (v0 : Fn) (x2 : Int32) (x3 : Int32) : Option (Bool) :=
  if x3 < 0 then some false else if (6 : Int32) ≤ x3 then some false else if x3 < 0 ∨ 6 ≤ x3.toNatClampNeg then none else if (((v0 x3.toNatClampNeg) >>> ((x2 / (2 : Int32)) &&& 31)) &&& (1 : Int32)) = (1 : Int32) then some true else some false
set_option maxRecDepth 100000 in
set_option maxHeartbeats 4000000 in
theorem j_X3_has_b14 {p : Program} {l : Launch} {e : Env} {s : State} {m : MethodId} {args : Array Value} {below : List Frame} {meth : Method} {c : Code} {A : Nat → Prop} {D : va_G} {cy : Nat → ClassId} {ad : (Nat → Nat) × (Nat → Nat)} (X : gK p s m args meth c A D cy ad cX3_has 4 RX3) (hr : meth.sig.returnType = (some .boolean)) {h0 h1 : Nat} (v0 : Fn) (x2 : Int32) (x3 : Int32) {q : Bool} (hf : f_X3_has_b14 v0 x2 x3 = some q) : GW p l e rmX3_has s m args below meth c A D 4 0 0 (MQ below (cmQ D cy A (some (.int (b2i q))) ([SU cy h0 h1 v0] : List va_W).flatten) args s 0 0 A) 14 [(0, .ref h0), (2, .int x2), (3, .int x3)] [] [SU cy h0 h1 v0] := by
  unfold f_X3_has_b14 at hf
  refine g_iload_n X dX3_has_14 2 rfl rfl ?_
  refine g_if_lt X 47 dX3_has_15 (by decide) (fun c31 => ?_) (fun c31 => ?_)
  · have hf := opos c31 hf
    refine g_iconst X (0 : Int32) dX3_has_47 (by decide) ?_
    have hf := Option.some.inj hf
    subst hf
    exact g_zret (b := false) X hr dX3_has_48
  · have hf := oneg c31 hf
    refine g_iload_n X dX3_has_18 2 rfl rfl ?_
    refine g_aload_n X dX3_has_19 0 rfl rfl ?_
    refine g_get X dX3_has_20 ck_X3 0 0 0 rfl rfl (Nat.le_of_ble_eq_true rfl) lkf_X3_9 rfl ?_
    refine g_alen0 (v := (6 : Int32)) X dX3_has_23 0 1 rfl rfl (by decide : Int32.ofNat 6 = (6 : Int32)) ?_
    refine g_icmp_ge X 47 dX3_has_24 (by decide) (fun c30 => ?_) (fun c30 => ?_)
    · have hf := opos c30 hf
      refine g_iconst X (0 : Int32) dX3_has_47 (by decide) ?_
      have hf := Option.some.inj hf
      subst hf
      exact g_zret (b := false) X hr dX3_has_48
    · have hf := oneg c30 hf
      refine g_aload_n X dX3_has_27 0 rfl rfl ?_
      refine g_get X dX3_has_28 ck_X3 0 0 0 rfl rfl (Nat.le_of_ble_eq_true rfl) lkf_X3_9 rfl ?_
      refine g_iload_n X dX3_has_31 2 rfl rfl ?_
      obtain ⟨n28, hf⟩ := oguard hf
      refine g_iaload X dX3_has_32 0 1 rfl rfl n28 ?_
      refine g_iload_n X dX3_has_33 1 rfl rfl ?_
      refine g_iconst X (2 : Int32) dX3_has_34 (by decide) ?_
      refine g_idiv X dX3_has_35 (by decide) ?_
      refine g_ishr X dX3_has_36 ?_
      refine g_iconst X (1 : Int32) dX3_has_37 (by decide) ?_
      refine g_iand X dX3_has_38 ?_
      refine g_iconst X (1 : Int32) dX3_has_39 (by decide) ?_
      refine g_icmp_ne X 47 dX3_has_40 (by decide) (fun c29 => ?_) (fun c29 => ?_)
      · have hf := oneg c29 hf
        refine g_iconst X (0 : Int32) dX3_has_47 (by decide) ?_
        have hf := Option.some.inj hf
        subst hf
        exact g_zret (b := false) X hr dX3_has_48
      · have hf := opos c29 hf
        refine g_iconst X (1 : Int32) dX3_has_43 (by decide) ?_
        refine g_goto X 48 dX3_has_44 (by decide) ?_
        have hf := Option.some.inj hf
        subst hf
        exact g_zret (b := true) X hr dX3_has_48
def f_X3_has (v0 : Fn) (p1 : Int32) : Option (Bool) :=
  f_X3_has_b14 v0 (p1 / (3 : Int32)) (((2 : Int32) * (p1 - p1 / (3 : Int32) * (3 : Int32))) + ((p1 / (3 : Int32)) - (p1 / (3 : Int32)) / (2 : Int32) * (2 : Int32)))
set_option maxRecDepth 100000 in
set_option maxHeartbeats 4000000 in
theorem c_X3_has (l : Launch) (D : va_G) (cy : Nat → ClassId) (ad : (Nat → Nat) × (Nat → Nat)) (h0 : Nat) (h1 : Nat) (v0 : Fn) (p1 : Int32) {q : Bool} (hf : f_X3_has v0 p1 = some q) : CM l yX3_has cX3_has 4 (some .boolean) rmX3_has D cy ad [.ref h0, .int p1] [SU cy h0 h1 v0] (some (.int (b2i q))) [SU cy h0 h1 v0] := by
  refine cm_of (lv0 := [(0, .ref h0), (1, .int p1)]) (by decide) (Nat.le_of_ble_eq_true rfl) rfl ?_
  intro p e s m args below meth c A X hr hn
  have X : gK p s m args meth c A D cy ad cX3_has 4 RX3 := X
  unfold f_X3_has at hf
  refine g_iload_n X dX3_has_0 1 rfl rfl ?_
  refine g_iconst X (3 : Int32) dX3_has_1 (by decide) ?_
  refine g_idiv X dX3_has_2 (by decide) ?_
  refine g_istore_n (lv' := [(0, .ref h0), (1, .int p1), (2, .int (p1 / (3 : Int32)))]) X dX3_has_3 [1, 2, 0] rfl (Nat.le_of_ble_eq_true rfl) rfl ?_
  refine g_iconst X (2 : Int32) dX3_has_4 (by decide) ?_
  refine g_iload_n X dX3_has_5 1 rfl rfl ?_
  refine g_iconst X (3 : Int32) dX3_has_6 (by decide) ?_
  refine g_irem X dX3_has_7 (by decide) ?_
  refine g_imul X dX3_has_8 ?_
  refine g_iload_n X dX3_has_9 2 rfl rfl ?_
  refine g_iconst X (2 : Int32) dX3_has_10 (by decide) ?_
  refine g_irem X dX3_has_11 (by decide) ?_
  refine g_iadd X dX3_has_12 ?_
  refine g_istore_n (lv' := [(0, .ref h0), (1, .int p1), (2, .int (p1 / (3 : Int32))), (3, .int (((2 : Int32) * (p1 - p1 / (3 : Int32) * (3 : Int32))) + ((p1 / (3 : Int32)) - (p1 / (3 : Int32)) / (2 : Int32) * (2 : Int32))))]) X dX3_has_13 [1, 2, 3, 0] rfl (Nat.le_of_ble_eq_true rfl) rfl ?_
  refine g_sub [0, 2, 3] (lv' := [(0, .ref h0), (2, .int (p1 / (3 : Int32))), (3, .int (((2 : Int32) * (p1 - p1 / (3 : Int32) * (3 : Int32))) + ((p1 / (3 : Int32)) - (p1 / (3 : Int32)) / (2 : Int32) * (2 : Int32))))]) rfl ?_
  exact j_X3_has_b14 X hr v0 (p1 / (3 : Int32)) (((2 : Int32) * (p1 - p1 / (3 : Int32) * (3 : Int32))) + ((p1 / (3 : Int32)) - (p1 / (3 : Int32)) / (2 : Int32) * (2 : Int32))) hf
abbrev rmX3_count : Room := ({ frames := 1, cells := 0, slots := 0, locals := 20 } : Room)
def f_X3_count_B4 (v0 : Fn) (z : Int32 × Int32) : Option ((Int32 × Int32) ⊕ ((Int32))) :=
  if (6 : Int32) ≤ z.2 then some (.inr ((z.1))) else if z.2 < 0 ∨ 6 ≤ z.2.toNatClampNeg then none else (f_J6_bitCount_0f7a4 (v0 z.2.toNatClampNeg)).bind (fun q35 => some (.inl ((z.1 + q35), (z.2 + (1 : Int32)))))
set_option maxRecDepth 100000 in
set_option maxHeartbeats 4000000 in
theorem b_X3_count_B4 {p : Program} {l : Launch} {e : Env} {s : State} {m : MethodId} {args : Array Value} {below : List Frame} {meth : Method} {c : Code} {A : Nat → Prop} {D : va_G} {cy : Nat → ClassId} {ad : (Nat → Nat) × (Nat → Nat)} {Q : State → Prop} (X : gK p s m args meth c A D cy ad cX3_count 3 RX3) (hr : meth.sig.returnType = (some .int)) {h0 h1 : Nat} (v0 : Fn) (z : Int32 × Int32) {q : (Int32 × Int32) ⊕ ((Int32))} (hf : f_X3_count_B4 v0 z = some q) (K1 : ∀ s' : Int32 × Int32, q = .inl s' → GW p l e rmX3_count s m args below meth c A D 3 0 0 Q 4 [(0, .ref h0), (1, .int s'.1), (2, .int s'.2)] [] [SU cy h0 h1 v0]) (K2 : ∀ e' : Int32, q = .inr (e') → GW p l e rmX3_count s m args below meth c A D 3 0 0 Q 31 [(1, .int e')] [] [SU cy h0 h1 v0]) : GW p l e rmX3_count s m args below meth c A D 3 0 0 Q 4 [(0, .ref h0), (1, .int z.1), (2, .int z.2)] [] [SU cy h0 h1 v0] := by
  unfold f_X3_count_B4 at hf
  refine g_iload_n X dX3_count_4 2 rfl rfl ?_
  refine g_aload_n X dX3_count_5 0 rfl rfl ?_
  refine g_get X dX3_count_6 ck_X3 0 0 0 rfl rfl (Nat.le_of_ble_eq_true rfl) lkf_X3_9 rfl ?_
  refine g_alen0 (v := (6 : Int32)) X dX3_count_9 0 1 rfl rfl (by decide : Int32.ofNat 6 = (6 : Int32)) ?_
  refine g_icmp_ge X 31 dX3_count_10 (by decide) (fun c36 => ?_) (fun c36 => ?_)
  · have hf := opos c36 hf
    refine g_sub [1] (lv' := [(1, .int z.1)]) rfl ?_
    exact K2 (z.1) (Option.some.inj hf).symm
  · have hf := oneg c36 hf
    refine g_iload_n X dX3_count_13 1 rfl rfl ?_
    refine g_aload_n X dX3_count_14 0 rfl rfl ?_
    refine g_get X dX3_count_15 ck_X3 0 0 0 rfl rfl (Nat.le_of_ble_eq_true rfl) lkf_X3_9 rfl ?_
    refine g_iload_n X dX3_count_18 2 rfl rfl ?_
    obtain ⟨n34, hf⟩ := oguard hf
    refine g_iaload X dX3_count_19 0 1 rfl rfl n34 ?_
    obtain ⟨q35, hq35, hf⟩ := obind hf
    refine g_callS (gs' := [SU cy h0 h1 v0]) (rest := [.int z.1]) X dX3_count_20 (c_J6_bitCount_0f7a4 l D cy ad (v0 z.2.toNatClampNeg) hq35) mf_J6_bitCount_0f7a4 ms_J6_bitCount_0f7a4 lkm_X3_15 ⟨(Nat.le_of_ble_eq_true rfl), (Nat.le_of_ble_eq_true rfl), (Nat.le_of_ble_eq_true rfl), (Nat.le_of_ble_eq_true rfl)⟩ [0] _ (by decide : [0].Perm (List.range 1)) rfl (by decide : [0].Perm (List.range 1)) rfl (Nat.le_of_ble_eq_true rfl) rfl ?_
    refine g_iadd X dX3_count_23 ?_
    refine g_istore_n (lv' := [(0, .ref h0), (1, .int (z.1 + q35)), (2, .int z.2)]) X dX3_count_24 [1, 0, 2] rfl (Nat.le_of_ble_eq_true rfl) rfl ?_
    refine g_iinc (lv' := [(0, .ref h0), (1, .int (z.1 + q35)), (2, .int (z.2 + (1 : Int32)))]) (v := (1 : Int32)) X dX3_count_25 2 rfl (by decide) [1, 2, 0] (Nat.le_of_ble_eq_true rfl) rfl ?_
    refine g_goto X 4 dX3_count_28 (by decide) ?_
    exact K1 ((z.1 + q35), (z.2 + (1 : Int32))) (Option.some.inj hf).symm
set_option maxRecDepth 100000 in
set_option maxHeartbeats 4000000 in
theorem w_X3_count_B4 {p : Program} {l : Launch} {e : Env} {s : State} {m : MethodId} {args : Array Value} {below : List Frame} {meth : Method} {c : Code} {A : Nat → Prop} {D : va_G} {cy : Nat → ClassId} {ad : (Nat → Nat) × (Nat → Nat)} {Q : State → Prop} (X : gK p s m args meth c A D cy ad cX3_count 3 RX3) (hr : meth.sig.returnType = (some .int)) {h0 h1 : Nat} (v0 : Fn) {n : Nat} {z : Int32 × Int32} {q : (Int32)} (hf : itl (f_X3_count_B4 v0) n z = some q) (K2 : GW p l e rmX3_count s m args below meth c A D 3 0 0 Q 31 [(1, .int q)] [] [SU cy h0 h1 v0]) : GW p l e rmX3_count s m args below meth c A D 3 0 0 Q 4 [(0, .ref h0), (1, .int z.1), (2, .int z.2)] [] [SU cy h0 h1 v0] :=
  itl_ind (f := f_X3_count_B4 v0) (I := fun z => GW p l e rmX3_count s m args below meth c A D 3 0 0 Q 4 [(0, .ref h0), (1, .int z.1), (2, .int z.2)] [] [SU cy h0 h1 v0]) (J := (fun q => GW p l e rmX3_count s m args below meth c A D 3 0 0 Q 31 [(1, .int q)] [] [SU cy h0 h1 v0])) (fun z x h k1 k2 => b_X3_count_B4 X hr v0 z h (fun s' hs => k1 s' hs) (fun e' he => k2 e' he)) n z q hf K2
def f_X3_count (v0 : Fn) : Option (Int32) :=
  (itl (f_X3_count_B4 v0) FU ((0 : Int32), (0 : Int32))).bind (fun q37 => some q37)
set_option maxRecDepth 100000 in
set_option maxHeartbeats 4000000 in
theorem c_X3_count (l : Launch) (D : va_G) (cy : Nat → ClassId) (ad : (Nat → Nat) × (Nat → Nat)) (h0 : Nat) (h1 : Nat) (v0 : Fn) {q : Int32} (hf : f_X3_count v0 = some q) : CM l yX3_count cX3_count 3 (some .int) rmX3_count D cy ad [.ref h0] [SU cy h0 h1 v0] (some (.int q)) [SU cy h0 h1 v0] := by
  refine cm_of (lv0 := [(0, .ref h0)]) (by decide) (Nat.le_of_ble_eq_true rfl) rfl ?_
  intro p e s m args below meth c A X hr hn
  have X : gK p s m args meth c A D cy ad cX3_count 3 RX3 := X
  unfold f_X3_count at hf
  refine g_iconst X (0 : Int32) dX3_count_0 (by decide) ?_
  refine g_istore_n (lv' := [(0, .ref h0), (1, .int (0 : Int32))]) X dX3_count_1 [1, 0] rfl (Nat.le_of_ble_eq_true rfl) rfl ?_
  refine g_iconst X (0 : Int32) dX3_count_2 (by decide) ?_
  refine g_istore_n (lv' := [(0, .ref h0), (1, .int (0 : Int32)), (2, .int (0 : Int32))]) X dX3_count_3 [1, 2, 0] rfl (Nat.le_of_ble_eq_true rfl) rfl ?_
  obtain ⟨q37, hq37, hf⟩ := obind hf
  refine w_X3_count_B4 X hr v0 hq37 ?_
  refine g_iload_n X dX3_count_31 0 rfl rfl ?_
  have hf := Option.some.inj hf
  subst hf
  exact g_iret X hr dX3_count_32
abbrev rmX3_coinMayBe : Room := ({ frames := 0, cells := 0, slots := 0, locals := 0 } : Room)
def f_X3_coinMayBe_B4_b59 (v0 : Fn) (x1 : Int32) (x2 : Int32) (x3 : Int32) : Option ((Int32 × Int32) ⊕ ((Int32))) :=
  some (.inl (x2, (x3 + (1 : Int32))))
set_option maxRecDepth 100000 in
set_option maxHeartbeats 4000000 in
theorem j_X3_coinMayBe_B4_b59 {p : Program} {l : Launch} {e : Env} {s : State} {m : MethodId} {args : Array Value} {below : List Frame} {meth : Method} {c : Code} {A : Nat → Prop} {D : va_G} {cy : Nat → ClassId} {ad : (Nat → Nat) × (Nat → Nat)} {Q : State → Prop} (X : gK p s m args meth c A D cy ad cX3_coinMayBe 4 RX3) (hr : meth.sig.returnType = (some .int)) {h0 h1 : Nat} (v0 : Fn) (x1 : Int32) (x2 : Int32) (x3 : Int32) {q : (Int32 × Int32) ⊕ ((Int32))} (hf : f_X3_coinMayBe_B4_b59 v0 x1 x2 x3 = some q) (K1 : ∀ s' : Int32 × Int32, q = .inl s' → GW p l e rmX3_coinMayBe s m args below meth c A D 4 0 0 Q 4 [(0, .ref h0), (1, .int x1), (2, .int s'.1), (3, .int s'.2)] [] [SU cy h0 h1 v0]) (K2 : ∀ e' : Int32, q = .inr (e') → GW p l e rmX3_coinMayBe s m args below meth c A D 4 0 0 Q 65 [(2, .int e')] [] [SU cy h0 h1 v0]) : GW p l e rmX3_coinMayBe s m args below meth c A D 4 0 0 Q 59 [(0, .ref h0), (1, .int x1), (2, .int x2), (3, .int x3)] [] [SU cy h0 h1 v0] := by
  unfold f_X3_coinMayBe_B4_b59 at hf
  refine g_iinc (lv' := [(0, .ref h0), (1, .int x1), (2, .int x2), (3, .int (x3 + (1 : Int32)))]) (v := (1 : Int32)) X dX3_coinMayBe_59 3 rfl (by decide) [1, 2, 3, 0] (Nat.le_of_ble_eq_true rfl) rfl ?_
  refine g_goto X 4 dX3_coinMayBe_62 (by decide) ?_
  exact K1 (x2, (x3 + (1 : Int32))) (Option.some.inj hf).symm
def f_X3_coinMayBe_B4_b40 (v0 : Fn) (x1 : Int32) (x2 : Int32) (x3 : Int32) : Option ((Int32 × Int32) ⊕ ((Int32))) :=
  if x3 < 0 ∨ 6 ≤ x3.toNatClampNeg then none else if ((v0 x3.toNatClampNeg) &&& (((1 : Int32) <<< (x1 &&& 31)) ^^^ (-1 : Int32))) = 0 then f_X3_coinMayBe_B4_b59 v0 x1 x2 x3 else f_X3_coinMayBe_B4_b59 v0 x1 (x2 ||| (4 : Int32)) x3
set_option maxRecDepth 100000 in
set_option maxHeartbeats 4000000 in
theorem j_X3_coinMayBe_B4_b40 {p : Program} {l : Launch} {e : Env} {s : State} {m : MethodId} {args : Array Value} {below : List Frame} {meth : Method} {c : Code} {A : Nat → Prop} {D : va_G} {cy : Nat → ClassId} {ad : (Nat → Nat) × (Nat → Nat)} {Q : State → Prop} (X : gK p s m args meth c A D cy ad cX3_coinMayBe 4 RX3) (hr : meth.sig.returnType = (some .int)) {h0 h1 : Nat} (v0 : Fn) (x1 : Int32) (x2 : Int32) (x3 : Int32) {q : (Int32 × Int32) ⊕ ((Int32))} (hf : f_X3_coinMayBe_B4_b40 v0 x1 x2 x3 = some q) (K1 : ∀ s' : Int32 × Int32, q = .inl s' → GW p l e rmX3_coinMayBe s m args below meth c A D 4 0 0 Q 4 [(0, .ref h0), (1, .int x1), (2, .int s'.1), (3, .int s'.2)] [] [SU cy h0 h1 v0]) (K2 : ∀ e' : Int32, q = .inr (e') → GW p l e rmX3_coinMayBe s m args below meth c A D 4 0 0 Q 65 [(2, .int e')] [] [SU cy h0 h1 v0]) : GW p l e rmX3_coinMayBe s m args below meth c A D 4 0 0 Q 40 [(0, .ref h0), (1, .int x1), (2, .int x2), (3, .int x3)] [] [SU cy h0 h1 v0] := by
  unfold f_X3_coinMayBe_B4_b40 at hf
  refine g_aload_n X dX3_coinMayBe_40 0 rfl rfl ?_
  refine g_get X dX3_coinMayBe_41 ck_X3 0 0 0 rfl rfl (Nat.le_of_ble_eq_true rfl) lkf_X3_9 rfl ?_
  refine g_iload_n X dX3_coinMayBe_44 3 rfl rfl ?_
  obtain ⟨n39, hf⟩ := oguard hf
  refine g_iaload X dX3_coinMayBe_45 0 1 rfl rfl n39 ?_
  refine g_iconst X (1 : Int32) dX3_coinMayBe_46 (by decide) ?_
  refine g_iload_n X dX3_coinMayBe_47 1 rfl rfl ?_
  refine g_ishl X dX3_coinMayBe_48 ?_
  refine g_iconst X (-1 : Int32) dX3_coinMayBe_49 (by decide) ?_
  refine g_ixor X dX3_coinMayBe_50 ?_
  refine g_iand X dX3_coinMayBe_51 ?_
  refine g_if_eq X 59 dX3_coinMayBe_52 (by decide) (fun c40 => ?_) (fun c40 => ?_)
  · have hf := opos c40 hf
    exact j_X3_coinMayBe_B4_b59 X hr v0 x1 x2 x3 hf K1 K2
  · have hf := oneg c40 hf
    refine g_iload_n X dX3_coinMayBe_55 2 rfl rfl ?_
    refine g_iconst X (4 : Int32) dX3_coinMayBe_56 (by decide) ?_
    refine g_ior X dX3_coinMayBe_57 ?_
    refine g_istore_n (lv' := [(0, .ref h0), (1, .int x1), (2, .int (x2 ||| (4 : Int32))), (3, .int x3)]) X dX3_coinMayBe_58 [1, 2, 0, 3] rfl (Nat.le_of_ble_eq_true rfl) rfl ?_
    exact j_X3_coinMayBe_B4_b59 X hr v0 x1 (x2 ||| (4 : Int32)) x3 hf K1 K2
def f_X3_coinMayBe_B4_b38 (v0 : Fn) (x1 : Int32) (x3 : Int32) (y0 : Int32) (y1 : Int32) : Option ((Int32 × Int32) ⊕ ((Int32))) :=
  f_X3_coinMayBe_B4_b40 v0 x1 (y1 ||| y0) x3
set_option maxRecDepth 100000 in
set_option maxHeartbeats 4000000 in
theorem j_X3_coinMayBe_B4_b38 {p : Program} {l : Launch} {e : Env} {s : State} {m : MethodId} {args : Array Value} {below : List Frame} {meth : Method} {c : Code} {A : Nat → Prop} {D : va_G} {cy : Nat → ClassId} {ad : (Nat → Nat) × (Nat → Nat)} {Q : State → Prop} (X : gK p s m args meth c A D cy ad cX3_coinMayBe 4 RX3) (hr : meth.sig.returnType = (some .int)) {h0 h1 : Nat} (v0 : Fn) (x1 : Int32) (x3 : Int32) (y0 : Int32) (y1 : Int32) {q : (Int32 × Int32) ⊕ ((Int32))} (hf : f_X3_coinMayBe_B4_b38 v0 x1 x3 y0 y1 = some q) (K1 : ∀ s' : Int32 × Int32, q = .inl s' → GW p l e rmX3_coinMayBe s m args below meth c A D 4 0 0 Q 4 [(0, .ref h0), (1, .int x1), (2, .int s'.1), (3, .int s'.2)] [] [SU cy h0 h1 v0]) (K2 : ∀ e' : Int32, q = .inr (e') → GW p l e rmX3_coinMayBe s m args below meth c A D 4 0 0 Q 65 [(2, .int e')] [] [SU cy h0 h1 v0]) : GW p l e rmX3_coinMayBe s m args below meth c A D 4 0 0 Q 38 [(0, .ref h0), (1, .int x1), (3, .int x3)] [.int y0, .int y1] [SU cy h0 h1 v0] := by
  unfold f_X3_coinMayBe_B4_b38 at hf
  refine g_ior X dX3_coinMayBe_38 ?_
  refine g_istore_n (lv' := [(0, .ref h0), (1, .int x1), (2, .int (y1 ||| y0)), (3, .int x3)]) X dX3_coinMayBe_39 [1, 2, 0, 3] rfl (Nat.le_of_ble_eq_true rfl) rfl ?_
  exact j_X3_coinMayBe_B4_b40 X hr v0 x1 (y1 ||| y0) x3 hf K1 K2
def f_X3_coinMayBe_B4 (v0 : Fn) (x1 : Int32) (z : Int32 × Int32) : Option ((Int32 × Int32) ⊕ ((Int32))) :=
  if (6 : Int32) ≤ z.2 then some (.inr ((z.1))) else if z.2 < 0 ∨ 6 ≤ z.2.toNatClampNeg then none else if ((v0 z.2.toNatClampNeg) &&& ((1 : Int32) <<< (x1 &&& 31))) = 0 then f_X3_coinMayBe_B4_b40 v0 x1 z.1 z.2 else if (z.2 - z.2 / (2 : Int32) * (2 : Int32)) = 0 then f_X3_coinMayBe_B4_b38 v0 x1 z.2 (1 : Int32) z.1 else f_X3_coinMayBe_B4_b38 v0 x1 z.2 (2 : Int32) z.1
set_option maxRecDepth 100000 in
set_option maxHeartbeats 4000000 in
theorem b_X3_coinMayBe_B4 {p : Program} {l : Launch} {e : Env} {s : State} {m : MethodId} {args : Array Value} {below : List Frame} {meth : Method} {c : Code} {A : Nat → Prop} {D : va_G} {cy : Nat → ClassId} {ad : (Nat → Nat) × (Nat → Nat)} {Q : State → Prop} (X : gK p s m args meth c A D cy ad cX3_coinMayBe 4 RX3) (hr : meth.sig.returnType = (some .int)) {h0 h1 : Nat} (v0 : Fn) (x1 : Int32) (z : Int32 × Int32) {q : (Int32 × Int32) ⊕ ((Int32))} (hf : f_X3_coinMayBe_B4 v0 x1 z = some q) (K1 : ∀ s' : Int32 × Int32, q = .inl s' → GW p l e rmX3_coinMayBe s m args below meth c A D 4 0 0 Q 4 [(0, .ref h0), (1, .int x1), (2, .int s'.1), (3, .int s'.2)] [] [SU cy h0 h1 v0]) (K2 : ∀ e' : Int32, q = .inr (e') → GW p l e rmX3_coinMayBe s m args below meth c A D 4 0 0 Q 65 [(2, .int e')] [] [SU cy h0 h1 v0]) : GW p l e rmX3_coinMayBe s m args below meth c A D 4 0 0 Q 4 [(0, .ref h0), (1, .int x1), (2, .int z.1), (3, .int z.2)] [] [SU cy h0 h1 v0] := by
  unfold f_X3_coinMayBe_B4 at hf
  refine g_iload_n X dX3_coinMayBe_4 3 rfl rfl ?_
  refine g_aload_n X dX3_coinMayBe_5 0 rfl rfl ?_
  refine g_get X dX3_coinMayBe_6 ck_X3 0 0 0 rfl rfl (Nat.le_of_ble_eq_true rfl) lkf_X3_9 rfl ?_
  refine g_alen0 (v := (6 : Int32)) X dX3_coinMayBe_9 0 1 rfl rfl (by decide : Int32.ofNat 6 = (6 : Int32)) ?_
  refine g_icmp_ge X 65 dX3_coinMayBe_10 (by decide) (fun c43 => ?_) (fun c43 => ?_)
  · have hf := opos c43 hf
    refine g_sub [2] (lv' := [(2, .int z.1)]) rfl ?_
    exact K2 (z.1) (Option.some.inj hf).symm
  · have hf := oneg c43 hf
    refine g_aload_n X dX3_coinMayBe_13 0 rfl rfl ?_
    refine g_get X dX3_coinMayBe_14 ck_X3 0 0 0 rfl rfl (Nat.le_of_ble_eq_true rfl) lkf_X3_9 rfl ?_
    refine g_iload_n X dX3_coinMayBe_17 3 rfl rfl ?_
    obtain ⟨n38, hf⟩ := oguard hf
    refine g_iaload X dX3_coinMayBe_18 0 1 rfl rfl n38 ?_
    refine g_iconst X (1 : Int32) dX3_coinMayBe_19 (by decide) ?_
    refine g_iload_n X dX3_coinMayBe_20 1 rfl rfl ?_
    refine g_ishl X dX3_coinMayBe_21 ?_
    refine g_iand X dX3_coinMayBe_22 ?_
    refine g_if_eq X 40 dX3_coinMayBe_23 (by decide) (fun c42 => ?_) (fun c42 => ?_)
    · have hf := opos c42 hf
      exact j_X3_coinMayBe_B4_b40 X hr v0 x1 z.1 z.2 hf K1 K2
    · have hf := oneg c42 hf
      refine g_iload_n X dX3_coinMayBe_26 2 rfl rfl ?_
      refine g_iload_n X dX3_coinMayBe_27 3 rfl rfl ?_
      refine g_iconst X (2 : Int32) dX3_coinMayBe_28 (by decide) ?_
      refine g_irem X dX3_coinMayBe_29 (by decide) ?_
      refine g_if_ne X 37 dX3_coinMayBe_30 (by decide) (fun c41 => ?_) (fun c41 => ?_)
      · have hf := oneg c41 hf
        refine g_iconst X (2 : Int32) dX3_coinMayBe_37 (by decide) ?_
        refine g_sub [0, 1, 3] (lv' := [(0, .ref h0), (1, .int x1), (3, .int z.2)]) rfl ?_
        exact j_X3_coinMayBe_B4_b38 X hr v0 x1 z.2 (2 : Int32) z.1 hf K1 K2
      · have hf := opos c41 hf
        refine g_iconst X (1 : Int32) dX3_coinMayBe_33 (by decide) ?_
        refine g_goto X 38 dX3_coinMayBe_34 (by decide) ?_
        refine g_sub [0, 1, 3] (lv' := [(0, .ref h0), (1, .int x1), (3, .int z.2)]) rfl ?_
        exact j_X3_coinMayBe_B4_b38 X hr v0 x1 z.2 (1 : Int32) z.1 hf K1 K2
set_option maxRecDepth 100000 in
set_option maxHeartbeats 4000000 in
theorem w_X3_coinMayBe_B4 {p : Program} {l : Launch} {e : Env} {s : State} {m : MethodId} {args : Array Value} {below : List Frame} {meth : Method} {c : Code} {A : Nat → Prop} {D : va_G} {cy : Nat → ClassId} {ad : (Nat → Nat) × (Nat → Nat)} {Q : State → Prop} (X : gK p s m args meth c A D cy ad cX3_coinMayBe 4 RX3) (hr : meth.sig.returnType = (some .int)) {h0 h1 : Nat} (v0 : Fn) (x1 : Int32) {n : Nat} {z : Int32 × Int32} {q : (Int32)} (hf : itl (f_X3_coinMayBe_B4 v0 x1) n z = some q) (K2 : GW p l e rmX3_coinMayBe s m args below meth c A D 4 0 0 Q 65 [(2, .int q)] [] [SU cy h0 h1 v0]) : GW p l e rmX3_coinMayBe s m args below meth c A D 4 0 0 Q 4 [(0, .ref h0), (1, .int x1), (2, .int z.1), (3, .int z.2)] [] [SU cy h0 h1 v0] :=
  itl_ind (f := f_X3_coinMayBe_B4 v0 x1) (I := fun z => GW p l e rmX3_coinMayBe s m args below meth c A D 4 0 0 Q 4 [(0, .ref h0), (1, .int x1), (2, .int z.1), (3, .int z.2)] [] [SU cy h0 h1 v0]) (J := (fun q => GW p l e rmX3_coinMayBe s m args below meth c A D 4 0 0 Q 65 [(2, .int q)] [] [SU cy h0 h1 v0])) (fun z x h k1 k2 => b_X3_coinMayBe_B4 X hr v0 x1 z h (fun s' hs => k1 s' hs) (fun e' he => k2 e' he)) n z q hf K2
def f_X3_coinMayBe (v0 : Fn) (p1 : Int32) : Option (Int32) :=
  (itl (f_X3_coinMayBe_B4 v0 p1) FU ((0 : Int32), (0 : Int32))).bind (fun q44 => some q44)
set_option maxRecDepth 100000 in
set_option maxHeartbeats 4000000 in
theorem c_X3_coinMayBe (l : Launch) (D : va_G) (cy : Nat → ClassId) (ad : (Nat → Nat) × (Nat → Nat)) (h0 : Nat) (h1 : Nat) (v0 : Fn) (p1 : Int32) {q : Int32} (hf : f_X3_coinMayBe v0 p1 = some q) : CM l yX3_coinMayBe cX3_coinMayBe 4 (some .int) rmX3_coinMayBe D cy ad [.ref h0, .int p1] [SU cy h0 h1 v0] (some (.int q)) [SU cy h0 h1 v0] := by
  refine cm_of (lv0 := [(0, .ref h0), (1, .int p1)]) (by decide) (Nat.le_of_ble_eq_true rfl) rfl ?_
  intro p e s m args below meth c A X hr hn
  have X : gK p s m args meth c A D cy ad cX3_coinMayBe 4 RX3 := X
  unfold f_X3_coinMayBe at hf
  refine g_iconst X (0 : Int32) dX3_coinMayBe_0 (by decide) ?_
  refine g_istore_n (lv' := [(0, .ref h0), (1, .int p1), (2, .int (0 : Int32))]) X dX3_coinMayBe_1 [1, 2, 0] rfl (Nat.le_of_ble_eq_true rfl) rfl ?_
  refine g_iconst X (0 : Int32) dX3_coinMayBe_2 (by decide) ?_
  refine g_istore_n (lv' := [(0, .ref h0), (1, .int p1), (2, .int (0 : Int32)), (3, .int (0 : Int32))]) X dX3_coinMayBe_3 [1, 2, 3, 0] rfl (Nat.le_of_ble_eq_true rfl) rfl ?_
  obtain ⟨q44, hq44, hf⟩ := obind hf
  refine w_X3_coinMayBe_B4 X hr v0 p1 hq44 ?_
  refine g_iload_n X dX3_coinMayBe_65 0 rfl rfl ?_
  have hf := Option.some.inj hf
  subst hf
  exact g_iret X hr dX3_coinMayBe_66
abbrev rmX3_pansMayBe : Room := ({ frames := 0, cells := 0, slots := 0, locals := 0 } : Room)
def f_X3_pansMayBe_B4_b30 (v0 : Fn) (x1 : Int32) (x2 : Int32) : Option ((Int32 × Int32) ⊕ ((Int32))) :=
  some (.inl (x1, (x2 + (1 : Int32))))
set_option maxRecDepth 100000 in
set_option maxHeartbeats 4000000 in
theorem j_X3_pansMayBe_B4_b30 {p : Program} {l : Launch} {e : Env} {s : State} {m : MethodId} {args : Array Value} {below : List Frame} {meth : Method} {c : Code} {A : Nat → Prop} {D : va_G} {cy : Nat → ClassId} {ad : (Nat → Nat) × (Nat → Nat)} {Q : State → Prop} (X : gK p s m args meth c A D cy ad cX3_pansMayBe 3 RX3) (hr : meth.sig.returnType = (some .int)) {h0 h1 : Nat} (v0 : Fn) (x1 : Int32) (x2 : Int32) {q : (Int32 × Int32) ⊕ ((Int32))} (hf : f_X3_pansMayBe_B4_b30 v0 x1 x2 = some q) (K1 : ∀ s' : Int32 × Int32, q = .inl s' → GW p l e rmX3_pansMayBe s m args below meth c A D 3 0 0 Q 4 [(0, .ref h0), (1, .int s'.1), (2, .int s'.2)] [] [SU cy h0 h1 v0]) (K2 : ∀ e' : Int32, q = .inr (e') → GW p l e rmX3_pansMayBe s m args below meth c A D 3 0 0 Q 36 [(1, .int e')] [] [SU cy h0 h1 v0]) : GW p l e rmX3_pansMayBe s m args below meth c A D 3 0 0 Q 30 [(0, .ref h0), (1, .int x1), (2, .int x2)] [] [SU cy h0 h1 v0] := by
  unfold f_X3_pansMayBe_B4_b30 at hf
  refine g_iinc (lv' := [(0, .ref h0), (1, .int x1), (2, .int (x2 + (1 : Int32)))]) (v := (1 : Int32)) X dX3_pansMayBe_30 2 rfl (by decide) [1, 2, 0] (Nat.le_of_ble_eq_true rfl) rfl ?_
  refine g_goto X 4 dX3_pansMayBe_33 (by decide) ?_
  exact K1 (x1, (x2 + (1 : Int32))) (Option.some.inj hf).symm
def f_X3_pansMayBe_B4 (v0 : Fn) (z : Int32 × Int32) : Option ((Int32 × Int32) ⊕ ((Int32))) :=
  if (6 : Int32) ≤ z.2 then some (.inr ((z.1))) else if z.2 < 0 ∨ 6 ≤ z.2.toNatClampNeg then none else if (v0 z.2.toNatClampNeg) = 0 then f_X3_pansMayBe_B4_b30 v0 z.1 z.2 else f_X3_pansMayBe_B4_b30 v0 (z.1 ||| ((1 : Int32) <<< ((z.2 / (2 : Int32)) &&& 31))) z.2
set_option maxRecDepth 100000 in
set_option maxHeartbeats 4000000 in
theorem b_X3_pansMayBe_B4 {p : Program} {l : Launch} {e : Env} {s : State} {m : MethodId} {args : Array Value} {below : List Frame} {meth : Method} {c : Code} {A : Nat → Prop} {D : va_G} {cy : Nat → ClassId} {ad : (Nat → Nat) × (Nat → Nat)} {Q : State → Prop} (X : gK p s m args meth c A D cy ad cX3_pansMayBe 3 RX3) (hr : meth.sig.returnType = (some .int)) {h0 h1 : Nat} (v0 : Fn) (z : Int32 × Int32) {q : (Int32 × Int32) ⊕ ((Int32))} (hf : f_X3_pansMayBe_B4 v0 z = some q) (K1 : ∀ s' : Int32 × Int32, q = .inl s' → GW p l e rmX3_pansMayBe s m args below meth c A D 3 0 0 Q 4 [(0, .ref h0), (1, .int s'.1), (2, .int s'.2)] [] [SU cy h0 h1 v0]) (K2 : ∀ e' : Int32, q = .inr (e') → GW p l e rmX3_pansMayBe s m args below meth c A D 3 0 0 Q 36 [(1, .int e')] [] [SU cy h0 h1 v0]) : GW p l e rmX3_pansMayBe s m args below meth c A D 3 0 0 Q 4 [(0, .ref h0), (1, .int z.1), (2, .int z.2)] [] [SU cy h0 h1 v0] := by
  unfold f_X3_pansMayBe_B4 at hf
  refine g_iload_n X dX3_pansMayBe_4 2 rfl rfl ?_
  refine g_aload_n X dX3_pansMayBe_5 0 rfl rfl ?_
  refine g_get X dX3_pansMayBe_6 ck_X3 0 0 0 rfl rfl (Nat.le_of_ble_eq_true rfl) lkf_X3_9 rfl ?_
  refine g_alen0 (v := (6 : Int32)) X dX3_pansMayBe_9 0 1 rfl rfl (by decide : Int32.ofNat 6 = (6 : Int32)) ?_
  refine g_icmp_ge X 36 dX3_pansMayBe_10 (by decide) (fun c47 => ?_) (fun c47 => ?_)
  · have hf := opos c47 hf
    refine g_sub [1] (lv' := [(1, .int z.1)]) rfl ?_
    exact K2 (z.1) (Option.some.inj hf).symm
  · have hf := oneg c47 hf
    refine g_aload_n X dX3_pansMayBe_13 0 rfl rfl ?_
    refine g_get X dX3_pansMayBe_14 ck_X3 0 0 0 rfl rfl (Nat.le_of_ble_eq_true rfl) lkf_X3_9 rfl ?_
    refine g_iload_n X dX3_pansMayBe_17 2 rfl rfl ?_
    obtain ⟨n45, hf⟩ := oguard hf
    refine g_iaload X dX3_pansMayBe_18 0 1 rfl rfl n45 ?_
    refine g_if_eq X 30 dX3_pansMayBe_19 (by decide) (fun c46 => ?_) (fun c46 => ?_)
    · have hf := opos c46 hf
      exact j_X3_pansMayBe_B4_b30 X hr v0 z.1 z.2 hf K1 K2
    · have hf := oneg c46 hf
      refine g_iload_n X dX3_pansMayBe_22 1 rfl rfl ?_
      refine g_iconst X (1 : Int32) dX3_pansMayBe_23 (by decide) ?_
      refine g_iload_n X dX3_pansMayBe_24 2 rfl rfl ?_
      refine g_iconst X (2 : Int32) dX3_pansMayBe_25 (by decide) ?_
      refine g_idiv X dX3_pansMayBe_26 (by decide) ?_
      refine g_ishl X dX3_pansMayBe_27 ?_
      refine g_ior X dX3_pansMayBe_28 ?_
      refine g_istore_n (lv' := [(0, .ref h0), (1, .int (z.1 ||| ((1 : Int32) <<< ((z.2 / (2 : Int32)) &&& 31)))), (2, .int z.2)]) X dX3_pansMayBe_29 [1, 0, 2] rfl (Nat.le_of_ble_eq_true rfl) rfl ?_
      exact j_X3_pansMayBe_B4_b30 X hr v0 (z.1 ||| ((1 : Int32) <<< ((z.2 / (2 : Int32)) &&& 31))) z.2 hf K1 K2
set_option maxRecDepth 100000 in
set_option maxHeartbeats 4000000 in
theorem w_X3_pansMayBe_B4 {p : Program} {l : Launch} {e : Env} {s : State} {m : MethodId} {args : Array Value} {below : List Frame} {meth : Method} {c : Code} {A : Nat → Prop} {D : va_G} {cy : Nat → ClassId} {ad : (Nat → Nat) × (Nat → Nat)} {Q : State → Prop} (X : gK p s m args meth c A D cy ad cX3_pansMayBe 3 RX3) (hr : meth.sig.returnType = (some .int)) {h0 h1 : Nat} (v0 : Fn) {n : Nat} {z : Int32 × Int32} {q : (Int32)} (hf : itl (f_X3_pansMayBe_B4 v0) n z = some q) (K2 : GW p l e rmX3_pansMayBe s m args below meth c A D 3 0 0 Q 36 [(1, .int q)] [] [SU cy h0 h1 v0]) : GW p l e rmX3_pansMayBe s m args below meth c A D 3 0 0 Q 4 [(0, .ref h0), (1, .int z.1), (2, .int z.2)] [] [SU cy h0 h1 v0] :=
  itl_ind (f := f_X3_pansMayBe_B4 v0) (I := fun z => GW p l e rmX3_pansMayBe s m args below meth c A D 3 0 0 Q 4 [(0, .ref h0), (1, .int z.1), (2, .int z.2)] [] [SU cy h0 h1 v0]) (J := (fun q => GW p l e rmX3_pansMayBe s m args below meth c A D 3 0 0 Q 36 [(1, .int q)] [] [SU cy h0 h1 v0])) (fun z x h k1 k2 => b_X3_pansMayBe_B4 X hr v0 z h (fun s' hs => k1 s' hs) (fun e' he => k2 e' he)) n z q hf K2
def f_X3_pansMayBe (v0 : Fn) : Option (Int32) :=
  (itl (f_X3_pansMayBe_B4 v0) FU ((0 : Int32), (0 : Int32))).bind (fun q48 => some q48)
set_option maxRecDepth 100000 in
set_option maxHeartbeats 4000000 in
theorem c_X3_pansMayBe (l : Launch) (D : va_G) (cy : Nat → ClassId) (ad : (Nat → Nat) × (Nat → Nat)) (h0 : Nat) (h1 : Nat) (v0 : Fn) {q : Int32} (hf : f_X3_pansMayBe v0 = some q) : CM l yX3_pansMayBe cX3_pansMayBe 3 (some .int) rmX3_pansMayBe D cy ad [.ref h0] [SU cy h0 h1 v0] (some (.int q)) [SU cy h0 h1 v0] := by
  refine cm_of (lv0 := [(0, .ref h0)]) (by decide) (Nat.le_of_ble_eq_true rfl) rfl ?_
  intro p e s m args below meth c A X hr hn
  have X : gK p s m args meth c A D cy ad cX3_pansMayBe 3 RX3 := X
  unfold f_X3_pansMayBe at hf
  refine g_iconst X (0 : Int32) dX3_pansMayBe_0 (by decide) ?_
  refine g_istore_n (lv' := [(0, .ref h0), (1, .int (0 : Int32))]) X dX3_pansMayBe_1 [1, 0] rfl (Nat.le_of_ble_eq_true rfl) rfl ?_
  refine g_iconst X (0 : Int32) dX3_pansMayBe_2 (by decide) ?_
  refine g_istore_n (lv' := [(0, .ref h0), (1, .int (0 : Int32)), (2, .int (0 : Int32))]) X dX3_pansMayBe_3 [1, 2, 0] rfl (Nat.le_of_ble_eq_true rfl) rfl ?_
  obtain ⟨q48, hq48, hf⟩ := obind hf
  refine w_X3_pansMayBe_B4 X hr v0 hq48 ?_
  refine g_iload_n X dX3_pansMayBe_36 0 rfl rfl ?_
  have hf := Option.some.inj hf
  subst hf
  exact g_iret X hr dX3_pansMayBe_37
abbrev rmX3_keep : Room := ({ frames := 1, cells := 0, slots := 0, locals := 25 } : Room)
def f_X3_keep_B2_b102 (v0 : Fn) (w0 : SCv) (x2 : Int32) (x3 : Int32) (x5 : Int32) : Option ((Int32 × Fn) ⊕ ((Fn))) :=
  if x3 < 0 ∨ 6 ≤ x3.toNatClampNeg then none else if x3 < 0 ∨ 6 ≤ x3.toNatClampNeg then none else some (.inl ((x3 + (1 : Int32)), (upd v0 x3.toNatClampNeg ((v0 x3.toNatClampNeg) &&& x5))))
set_option maxRecDepth 100000 in
set_option maxHeartbeats 4000000 in
theorem j_X3_keep_B2_b102 {p : Program} {l : Launch} {e : Env} {s : State} {m : MethodId} {args : Array Value} {below : List Frame} {meth : Method} {c : Code} {A : Nat → Prop} {D : va_G} {cy : Nat → ClassId} {ad : (Nat → Nat) × (Nat → Nat)} {Q : State → Prop} (X : gK p s m args meth c A D cy ad cX3_keep 6 RX3) (hr : meth.sig.returnType = none) {h0 h1 g0 : Nat} (v0 : Fn) (w0 : SCv) (x2 : Int32) (x3 : Int32) (x5 : Int32) {q : (Int32 × Fn) ⊕ ((Fn))} (hf : f_X3_keep_B2_b102 v0 w0 x2 x3 x5 = some q) (K1 : ∀ s' : Int32 × Fn, q = .inl s' → GW p l e rmX3_keep s m args below meth c A D 6 0 0 Q 2 [(0, .ref h0), (1, .ref g0), (2, .int x2), (3, .int s'.1)] [] [SU cy h0 h1 s'.2, SC g0 w0]) (K2 : ∀ e' : Fn, q = .inr (e') → GW p l e rmX3_keep s m args below meth c A D 6 0 0 Q 119 [] [] [SU cy h0 h1 e', SC g0 w0]) : GW p l e rmX3_keep s m args below meth c A D 6 0 0 Q 102 [(0, .ref h0), (1, .ref g0), (2, .int x2), (3, .int x3), (5, .int x5)] [] [SU cy h0 h1 v0, SC g0 w0] := by
  unfold f_X3_keep_B2_b102 at hf
  refine g_aload_n X dX3_keep_102 0 rfl rfl ?_
  refine g_get X dX3_keep_103 ck_X3 0 0 0 rfl rfl (Nat.le_of_ble_eq_true rfl) lkf_X3_9 rfl ?_
  refine g_iload_n X dX3_keep_106 3 rfl rfl ?_
  refine g_dup2 X dX3_keep_107 rfl rfl ?_
  obtain ⟨n58, hf⟩ := oguard hf
  refine g_iaload X dX3_keep_108 0 1 rfl rfl n58 ?_
  refine g_iload X dX3_keep_109 4 rfl ?_
  refine g_iand X dX3_keep_111 ?_
  obtain ⟨n59, hf⟩ := oguard hf
  refine g_iastore (gs' := [SU cy h0 h1 (upd v0 x3.toNatClampNeg ((v0 x3.toNatClampNeg) &&& x5)), SC g0 w0]) X dX3_keep_112 0 1 rfl rfl n59 rfl ?_
  refine g_iinc (lv' := [(0, .ref h0), (1, .ref g0), (2, .int x2), (3, .int (x3 + (1 : Int32))), (5, .int x5)]) (v := (1 : Int32)) X dX3_keep_113 3 rfl (by decide) [1, 2, 3, 0, 4] (Nat.le_of_ble_eq_true rfl) rfl ?_
  refine g_goto X 2 dX3_keep_116 (by decide) ?_
  refine g_sub [0, 1, 2, 3] (lv' := [(0, .ref h0), (1, .ref g0), (2, .int x2), (3, .int (x3 + (1 : Int32)))]) rfl ?_
  exact K1 ((x3 + (1 : Int32)), (upd v0 x3.toNatClampNeg ((v0 x3.toNatClampNeg) &&& x5))) (Option.some.inj hf).symm
def f_X3_keep_B2_b73 (v0 : Fn) (w0 : SCv) (x2 : Int32) (x3 : Int32) (x5 : Int32) : Option ((Int32 × Fn) ⊕ ((Fn))) :=
  (f_X1_outcome w0 (x3 / (2 : Int32)) (0 : Int32) (0 : Int32)).bind (fun q57 => if q57 = x2 then f_X3_keep_B2_b102 v0 w0 x2 x3 (x5 ||| ((w0.1 ||| w0.2.1) ^^^ (-1 : Int32))) else f_X3_keep_B2_b102 v0 w0 x2 x3 x5)
set_option maxRecDepth 100000 in
set_option maxHeartbeats 4000000 in
theorem j_X3_keep_B2_b73 {p : Program} {l : Launch} {e : Env} {s : State} {m : MethodId} {args : Array Value} {below : List Frame} {meth : Method} {c : Code} {A : Nat → Prop} {D : va_G} {cy : Nat → ClassId} {ad : (Nat → Nat) × (Nat → Nat)} {Q : State → Prop} (X : gK p s m args meth c A D cy ad cX3_keep 6 RX3) (hr : meth.sig.returnType = none) {h0 h1 g0 : Nat} (v0 : Fn) (w0 : SCv) (x2 : Int32) (x3 : Int32) (x5 : Int32) {q : (Int32 × Fn) ⊕ ((Fn))} (hf : f_X3_keep_B2_b73 v0 w0 x2 x3 x5 = some q) (K1 : ∀ s' : Int32 × Fn, q = .inl s' → GW p l e rmX3_keep s m args below meth c A D 6 0 0 Q 2 [(0, .ref h0), (1, .ref g0), (2, .int x2), (3, .int s'.1)] [] [SU cy h0 h1 s'.2, SC g0 w0]) (K2 : ∀ e' : Fn, q = .inr (e') → GW p l e rmX3_keep s m args below meth c A D 6 0 0 Q 119 [] [] [SU cy h0 h1 e', SC g0 w0]) : GW p l e rmX3_keep s m args below meth c A D 6 0 0 Q 73 [(0, .ref h0), (1, .ref g0), (2, .int x2), (3, .int x3), (5, .int x5)] [] [SU cy h0 h1 v0, SC g0 w0] := by
  unfold f_X3_keep_B2_b73 at hf
  refine g_aload_n X dX3_keep_73 1 rfl rfl ?_
  refine g_iload_n X dX3_keep_74 3 rfl rfl ?_
  refine g_iconst X (2 : Int32) dX3_keep_75 (by decide) ?_
  refine g_idiv X dX3_keep_76 (by decide) ?_
  refine g_iconst X (0 : Int32) dX3_keep_77 (by decide) ?_
  refine g_iconst X (0 : Int32) dX3_keep_78 (by decide) ?_
  obtain ⟨q57, hq57, hf⟩ := obind hf
  refine g_callV (gs' := [SU cy h0 h1 v0, SC g0 w0]) (rest := []) X dX3_keep_79 (c_X1_outcome l D cy ad g0 w0 (x3 / (2 : Int32)) (0 : Int32) (0 : Int32) hq57) mf_X1_outcome mv_X1_outcome lkm_X3_21 ⟨(Nat.le_of_ble_eq_true rfl), (Nat.le_of_ble_eq_true rfl), (Nat.le_of_ble_eq_true rfl), (Nat.le_of_ble_eq_true rfl)⟩ 1 0 rfl rfl rfl rfl [1, 0] _ (by decide : [1, 0].Perm (List.range 2)) rfl (by decide : [1, 0].Perm (List.range 2)) rfl (Nat.le_of_ble_eq_true rfl) rfl ?_
  refine g_iload_n X dX3_keep_82 2 rfl rfl ?_
  refine g_icmp_ne X 102 dX3_keep_83 (by decide) (fun c60 => ?_) (fun c60 => ?_)
  · have hf := oneg c60 hf
    exact j_X3_keep_B2_b102 X hr v0 w0 x2 x3 x5 hf K1 K2
  · have hf := opos c60 hf
    refine g_iload X dX3_keep_86 4 rfl ?_
    refine g_aload_n X dX3_keep_88 1 rfl rfl ?_
    refine g_get X dX3_keep_89 ck_X1 1 0 0 rfl rfl (Nat.le_of_ble_eq_true rfl) lkf_X3_27 rfl ?_
    refine g_aload_n X dX3_keep_92 1 rfl rfl ?_
    refine g_get X dX3_keep_93 ck_X1 1 0 1 rfl rfl (Nat.le_of_ble_eq_true rfl) lkf_X3_31 rfl ?_
    refine g_ior X dX3_keep_96 ?_
    refine g_iconst X (-1 : Int32) dX3_keep_97 (by decide) ?_
    refine g_ixor X dX3_keep_98 ?_
    refine g_ior X dX3_keep_99 ?_
    refine g_istore (lv' := [(0, .ref h0), (1, .ref g0), (2, .int x2), (3, .int x3), (5, .int (x5 ||| ((w0.1 ||| w0.2.1) ^^^ (-1 : Int32))))]) X dX3_keep_100 [1, 2, 3, 4, 0] (Nat.le_of_ble_eq_true rfl) rfl ?_
    exact j_X3_keep_B2_b102 X hr v0 w0 x2 x3 (x5 ||| ((w0.1 ||| w0.2.1) ^^^ (-1 : Int32))) hf K1 K2
def f_X3_keep_B2_b50 (v0 : Fn) (w0 : SCv) (x2 : Int32) (x3 : Int32) (x4 : Int32) (x5 : Int32) : Option ((Int32 × Fn) ⊕ ((Fn))) :=
  (f_X1_outcome w0 (x3 / (2 : Int32)) (0 : Int32) x4).bind (fun q56 => if q56 = x2 then f_X3_keep_B2_b73 v0 w0 x2 x3 (x5 ||| w0.2.1) else f_X3_keep_B2_b73 v0 w0 x2 x3 x5)
set_option maxRecDepth 100000 in
set_option maxHeartbeats 4000000 in
theorem j_X3_keep_B2_b50 {p : Program} {l : Launch} {e : Env} {s : State} {m : MethodId} {args : Array Value} {below : List Frame} {meth : Method} {c : Code} {A : Nat → Prop} {D : va_G} {cy : Nat → ClassId} {ad : (Nat → Nat) × (Nat → Nat)} {Q : State → Prop} (X : gK p s m args meth c A D cy ad cX3_keep 6 RX3) (hr : meth.sig.returnType = none) {h0 h1 g0 : Nat} (v0 : Fn) (w0 : SCv) (x2 : Int32) (x3 : Int32) (x4 : Int32) (x5 : Int32) {q : (Int32 × Fn) ⊕ ((Fn))} (hf : f_X3_keep_B2_b50 v0 w0 x2 x3 x4 x5 = some q) (K1 : ∀ s' : Int32 × Fn, q = .inl s' → GW p l e rmX3_keep s m args below meth c A D 6 0 0 Q 2 [(0, .ref h0), (1, .ref g0), (2, .int x2), (3, .int s'.1)] [] [SU cy h0 h1 s'.2, SC g0 w0]) (K2 : ∀ e' : Fn, q = .inr (e') → GW p l e rmX3_keep s m args below meth c A D 6 0 0 Q 119 [] [] [SU cy h0 h1 e', SC g0 w0]) : GW p l e rmX3_keep s m args below meth c A D 6 0 0 Q 50 [(0, .ref h0), (1, .ref g0), (2, .int x2), (3, .int x3), (4, .int x4), (5, .int x5)] [] [SU cy h0 h1 v0, SC g0 w0] := by
  unfold f_X3_keep_B2_b50 at hf
  refine g_aload_n X dX3_keep_50 1 rfl rfl ?_
  refine g_iload_n X dX3_keep_51 3 rfl rfl ?_
  refine g_iconst X (2 : Int32) dX3_keep_52 (by decide) ?_
  refine g_idiv X dX3_keep_53 (by decide) ?_
  refine g_iconst X (0 : Int32) dX3_keep_54 (by decide) ?_
  refine g_iload X dX3_keep_55 4 rfl ?_
  obtain ⟨q56, hq56, hf⟩ := obind hf
  refine g_callV (gs' := [SU cy h0 h1 v0, SC g0 w0]) (rest := []) X dX3_keep_57 (c_X1_outcome l D cy ad g0 w0 (x3 / (2 : Int32)) (0 : Int32) x4 hq56) mf_X1_outcome mv_X1_outcome lkm_X3_21 ⟨(Nat.le_of_ble_eq_true rfl), (Nat.le_of_ble_eq_true rfl), (Nat.le_of_ble_eq_true rfl), (Nat.le_of_ble_eq_true rfl)⟩ 1 0 rfl rfl rfl rfl [1, 0] _ (by decide : [1, 0].Perm (List.range 2)) rfl (by decide : [1, 0].Perm (List.range 2)) rfl (Nat.le_of_ble_eq_true rfl) rfl ?_
  refine g_iload_n X dX3_keep_60 2 rfl rfl ?_
  refine g_icmp_ne X 73 dX3_keep_61 (by decide) (fun c61 => ?_) (fun c61 => ?_)
  · have hf := oneg c61 hf
    refine g_sub [0, 1, 2, 3, 5] (lv' := [(0, .ref h0), (1, .ref g0), (2, .int x2), (3, .int x3), (5, .int x5)]) rfl ?_
    exact j_X3_keep_B2_b73 X hr v0 w0 x2 x3 x5 hf K1 K2
  · have hf := opos c61 hf
    refine g_iload X dX3_keep_64 5 rfl ?_
    refine g_aload_n X dX3_keep_66 1 rfl rfl ?_
    refine g_get X dX3_keep_67 ck_X1 1 0 1 rfl rfl (Nat.le_of_ble_eq_true rfl) lkf_X3_31 rfl ?_
    refine g_ior X dX3_keep_70 ?_
    refine g_istore (lv' := [(0, .ref h0), (1, .ref g0), (2, .int x2), (3, .int x3), (4, .int x4), (5, .int (x5 ||| w0.2.1))]) X dX3_keep_71 [1, 2, 3, 4, 5, 0] (Nat.le_of_ble_eq_true rfl) rfl ?_
    refine g_sub [0, 1, 2, 3, 5] (lv' := [(0, .ref h0), (1, .ref g0), (2, .int x2), (3, .int x3), (5, .int (x5 ||| w0.2.1))]) rfl ?_
    exact j_X3_keep_B2_b73 X hr v0 w0 x2 x3 (x5 ||| w0.2.1) hf K1 K2
def f_X3_keep_B2_b22 (v0 : Fn) (w0 : SCv) (x2 : Int32) (x3 : Int32) (y0 : Int32) : Option ((Int32 × Fn) ⊕ ((Fn))) :=
  (f_X1_outcome w0 (x3 / (2 : Int32)) y0 (0 : Int32)).bind (fun q55 => if q55 = x2 then f_X3_keep_B2_b50 v0 w0 x2 x3 y0 ((0 : Int32) ||| w0.1) else f_X3_keep_B2_b50 v0 w0 x2 x3 y0 (0 : Int32))
set_option maxRecDepth 100000 in
set_option maxHeartbeats 4000000 in
theorem j_X3_keep_B2_b22 {p : Program} {l : Launch} {e : Env} {s : State} {m : MethodId} {args : Array Value} {below : List Frame} {meth : Method} {c : Code} {A : Nat → Prop} {D : va_G} {cy : Nat → ClassId} {ad : (Nat → Nat) × (Nat → Nat)} {Q : State → Prop} (X : gK p s m args meth c A D cy ad cX3_keep 6 RX3) (hr : meth.sig.returnType = none) {h0 h1 g0 : Nat} (v0 : Fn) (w0 : SCv) (x2 : Int32) (x3 : Int32) (y0 : Int32) {q : (Int32 × Fn) ⊕ ((Fn))} (hf : f_X3_keep_B2_b22 v0 w0 x2 x3 y0 = some q) (K1 : ∀ s' : Int32 × Fn, q = .inl s' → GW p l e rmX3_keep s m args below meth c A D 6 0 0 Q 2 [(0, .ref h0), (1, .ref g0), (2, .int x2), (3, .int s'.1)] [] [SU cy h0 h1 s'.2, SC g0 w0]) (K2 : ∀ e' : Fn, q = .inr (e') → GW p l e rmX3_keep s m args below meth c A D 6 0 0 Q 119 [] [] [SU cy h0 h1 e', SC g0 w0]) : GW p l e rmX3_keep s m args below meth c A D 6 0 0 Q 22 [(0, .ref h0), (1, .ref g0), (2, .int x2), (3, .int x3)] [.int y0] [SU cy h0 h1 v0, SC g0 w0] := by
  unfold f_X3_keep_B2_b22 at hf
  refine g_istore (lv' := [(0, .ref h0), (1, .ref g0), (2, .int x2), (3, .int x3), (4, .int y0)]) X dX3_keep_22 [1, 2, 3, 4, 0] (Nat.le_of_ble_eq_true rfl) rfl ?_
  refine g_iconst X (0 : Int32) dX3_keep_24 (by decide) ?_
  refine g_istore (lv' := [(0, .ref h0), (1, .ref g0), (2, .int x2), (3, .int x3), (4, .int y0), (5, .int (0 : Int32))]) X dX3_keep_25 [1, 2, 3, 4, 5, 0] (Nat.le_of_ble_eq_true rfl) rfl ?_
  refine g_aload_n X dX3_keep_27 1 rfl rfl ?_
  refine g_iload_n X dX3_keep_28 3 rfl rfl ?_
  refine g_iconst X (2 : Int32) dX3_keep_29 (by decide) ?_
  refine g_idiv X dX3_keep_30 (by decide) ?_
  refine g_iload X dX3_keep_31 4 rfl ?_
  refine g_iconst X (0 : Int32) dX3_keep_33 (by decide) ?_
  obtain ⟨q55, hq55, hf⟩ := obind hf
  refine g_callV (gs' := [SU cy h0 h1 v0, SC g0 w0]) (rest := []) X dX3_keep_34 (c_X1_outcome l D cy ad g0 w0 (x3 / (2 : Int32)) y0 (0 : Int32) hq55) mf_X1_outcome mv_X1_outcome lkm_X3_21 ⟨(Nat.le_of_ble_eq_true rfl), (Nat.le_of_ble_eq_true rfl), (Nat.le_of_ble_eq_true rfl), (Nat.le_of_ble_eq_true rfl)⟩ 1 0 rfl rfl rfl rfl [1, 0] _ (by decide : [1, 0].Perm (List.range 2)) rfl (by decide : [1, 0].Perm (List.range 2)) rfl (Nat.le_of_ble_eq_true rfl) rfl ?_
  refine g_iload_n X dX3_keep_37 2 rfl rfl ?_
  refine g_icmp_ne X 50 dX3_keep_38 (by decide) (fun c62 => ?_) (fun c62 => ?_)
  · have hf := oneg c62 hf
    exact j_X3_keep_B2_b50 X hr v0 w0 x2 x3 y0 (0 : Int32) hf K1 K2
  · have hf := opos c62 hf
    refine g_iload X dX3_keep_41 5 rfl ?_
    refine g_aload_n X dX3_keep_43 1 rfl rfl ?_
    refine g_get X dX3_keep_44 ck_X1 1 0 0 rfl rfl (Nat.le_of_ble_eq_true rfl) lkf_X3_27 rfl ?_
    refine g_ior X dX3_keep_47 ?_
    refine g_istore (lv' := [(0, .ref h0), (1, .ref g0), (2, .int x2), (3, .int x3), (4, .int y0), (5, .int ((0 : Int32) ||| w0.1))]) X dX3_keep_48 [1, 2, 3, 4, 5, 0] (Nat.le_of_ble_eq_true rfl) rfl ?_
    exact j_X3_keep_B2_b50 X hr v0 w0 x2 x3 y0 ((0 : Int32) ||| w0.1) hf K1 K2
def f_X3_keep_B2 (w0 : SCv) (x2 : Int32) (z : Int32 × Fn) : Option ((Int32 × Fn) ⊕ ((Fn))) :=
  if (6 : Int32) ≤ z.1 then some (.inr ((z.2))) else if (z.1 - z.1 / (2 : Int32) * (2 : Int32)) = 0 then f_X3_keep_B2_b22 z.2 w0 x2 z.1 (-1 : Int32) else f_X3_keep_B2_b22 z.2 w0 x2 z.1 (1 : Int32)
set_option maxRecDepth 100000 in
set_option maxHeartbeats 4000000 in
theorem b_X3_keep_B2 {p : Program} {l : Launch} {e : Env} {s : State} {m : MethodId} {args : Array Value} {below : List Frame} {meth : Method} {c : Code} {A : Nat → Prop} {D : va_G} {cy : Nat → ClassId} {ad : (Nat → Nat) × (Nat → Nat)} {Q : State → Prop} (X : gK p s m args meth c A D cy ad cX3_keep 6 RX3) (hr : meth.sig.returnType = none) {h0 h1 g0 : Nat} (w0 : SCv) (x2 : Int32) (z : Int32 × Fn) {q : (Int32 × Fn) ⊕ ((Fn))} (hf : f_X3_keep_B2 w0 x2 z = some q) (K1 : ∀ s' : Int32 × Fn, q = .inl s' → GW p l e rmX3_keep s m args below meth c A D 6 0 0 Q 2 [(0, .ref h0), (1, .ref g0), (2, .int x2), (3, .int s'.1)] [] [SU cy h0 h1 s'.2, SC g0 w0]) (K2 : ∀ e' : Fn, q = .inr (e') → GW p l e rmX3_keep s m args below meth c A D 6 0 0 Q 119 [] [] [SU cy h0 h1 e', SC g0 w0]) : GW p l e rmX3_keep s m args below meth c A D 6 0 0 Q 2 [(0, .ref h0), (1, .ref g0), (2, .int x2), (3, .int z.1)] [] [SU cy h0 h1 z.2, SC g0 w0] := by
  unfold f_X3_keep_B2 at hf
  refine g_iload_n X dX3_keep_2 3 rfl rfl ?_
  refine g_aload_n X dX3_keep_3 0 rfl rfl ?_
  refine g_get X dX3_keep_4 ck_X3 0 0 0 rfl rfl (Nat.le_of_ble_eq_true rfl) lkf_X3_9 rfl ?_
  refine g_alen0 (v := (6 : Int32)) X dX3_keep_7 0 1 rfl rfl (by decide : Int32.ofNat 6 = (6 : Int32)) ?_
  refine g_icmp_ge X 119 dX3_keep_8 (by decide) (fun c64 => ?_) (fun c64 => ?_)
  · have hf := opos c64 hf
    refine g_sub [] (lv' := []) rfl ?_
    exact K2 (z.2) (Option.some.inj hf).symm
  · have hf := oneg c64 hf
    refine g_iload_n X dX3_keep_11 3 rfl rfl ?_
    refine g_iconst X (2 : Int32) dX3_keep_12 (by decide) ?_
    refine g_irem X dX3_keep_13 (by decide) ?_
    refine g_if_ne X 21 dX3_keep_14 (by decide) (fun c63 => ?_) (fun c63 => ?_)
    · have hf := oneg c63 hf
      refine g_iconst X (1 : Int32) dX3_keep_21 (by decide) ?_
      exact j_X3_keep_B2_b22 X hr z.2 w0 x2 z.1 (1 : Int32) hf K1 K2
    · have hf := opos c63 hf
      refine g_iconst X (-1 : Int32) dX3_keep_17 (by decide) ?_
      refine g_goto X 22 dX3_keep_18 (by decide) ?_
      exact j_X3_keep_B2_b22 X hr z.2 w0 x2 z.1 (-1 : Int32) hf K1 K2
set_option maxRecDepth 100000 in
set_option maxHeartbeats 4000000 in
theorem w_X3_keep_B2 {p : Program} {l : Launch} {e : Env} {s : State} {m : MethodId} {args : Array Value} {below : List Frame} {meth : Method} {c : Code} {A : Nat → Prop} {D : va_G} {cy : Nat → ClassId} {ad : (Nat → Nat) × (Nat → Nat)} {Q : State → Prop} (X : gK p s m args meth c A D cy ad cX3_keep 6 RX3) (hr : meth.sig.returnType = none) {h0 h1 g0 : Nat} (w0 : SCv) (x2 : Int32) {n : Nat} {z : Int32 × Fn} {q : (Fn)} (hf : itl (f_X3_keep_B2 w0 x2) n z = some q) (K2 : GW p l e rmX3_keep s m args below meth c A D 6 0 0 Q 119 [] [] [SU cy h0 h1 q, SC g0 w0]) : GW p l e rmX3_keep s m args below meth c A D 6 0 0 Q 2 [(0, .ref h0), (1, .ref g0), (2, .int x2), (3, .int z.1)] [] [SU cy h0 h1 z.2, SC g0 w0] :=
  itl_ind (f := f_X3_keep_B2 w0 x2) (I := fun z => GW p l e rmX3_keep s m args below meth c A D 6 0 0 Q 2 [(0, .ref h0), (1, .ref g0), (2, .int x2), (3, .int z.1)] [] [SU cy h0 h1 z.2, SC g0 w0]) (J := (fun q => GW p l e rmX3_keep s m args below meth c A D 6 0 0 Q 119 [] [] [SU cy h0 h1 q, SC g0 w0])) (fun z x h k1 k2 => b_X3_keep_B2 X hr w0 x2 z h (fun s' hs => k1 s' hs) (fun e' he => k2 e' he)) n z q hf K2
def f_X3_keep (v0 : Fn) (w0 : SCv) (p2 : Int32) : Option (Fn) :=
  (itl (f_X3_keep_B2 w0 p2) FU ((0 : Int32), v0)).bind (fun q65 => some q65)
set_option maxRecDepth 100000 in
set_option maxHeartbeats 4000000 in
theorem c_X3_keep (l : Launch) (D : va_G) (cy : Nat → ClassId) (ad : (Nat → Nat) × (Nat → Nat)) (h0 : Nat) (h1 : Nat) (g0 : Nat) (v0 : Fn) (w0 : SCv) (p2 : Int32) {q : Fn} (hf : f_X3_keep v0 w0 p2 = some q) : CM l yX3_keep cX3_keep 6 none rmX3_keep D cy ad [.ref h0, .ref g0, .int p2] [SU cy h0 h1 v0, SC g0 w0] none [SU cy h0 h1 q, SC g0 w0] := by
  refine cm_of (lv0 := [(0, .ref h0), (1, .ref g0), (2, .int p2)]) (by decide) (Nat.le_of_ble_eq_true rfl) rfl ?_
  intro p e s m args below meth c A X hr hn
  have X : gK p s m args meth c A D cy ad cX3_keep 6 RX3 := X
  unfold f_X3_keep at hf
  refine g_iconst X (0 : Int32) dX3_keep_0 (by decide) ?_
  refine g_istore_n (lv' := [(0, .ref h0), (1, .ref g0), (2, .int p2), (3, .int (0 : Int32))]) X dX3_keep_1 [1, 2, 3, 0] rfl (Nat.le_of_ble_eq_true rfl) rfl ?_
  obtain ⟨q65, hq65, hf⟩ := obind hf
  refine w_X3_keep_B2 X hr w0 p2 hq65 ?_
  have hf := Option.some.inj hf
  subst hf
  exact g_vret X hr dX3_keep_119
abbrev rmX5_clear : Room := ({ frames := 0, cells := 0, slots := 0, locals := 0 } : Room)
def f_X5_clear (v0 : TAv) : Option (TAv) :=
  some ((0 : Int32), (0 : Int32), (0 : Int32))
set_option maxRecDepth 100000 in
set_option maxHeartbeats 4000000 in
theorem c_X5_clear (l : Launch) (D : va_G) (cy : Nat → ClassId) (ad : (Nat → Nat) × (Nat → Nat)) (h0 : Nat) (v0 : TAv) {q : TAv} (hf : f_X5_clear v0 = some q) : CM l yX5_clear cX5_clear 1 none rmX5_clear D cy ad [.ref h0] [TA h0 v0] none [TA h0 q] := by
  refine cm_of (lv0 := [(0, .ref h0)]) (by decide) (Nat.le_of_ble_eq_true rfl) rfl ?_
  intro p e s m args below meth c A X hr hn
  have X : gK p s m args meth c A D cy ad cX5_clear 1 RX5 := X
  unfold f_X5_clear at hf
  refine g_aload_n X dX5_clear_0 0 rfl rfl ?_
  refine g_iconst X (0 : Int32) dX5_clear_1 (by decide) ?_
  refine g_put (gs' := [TA h0 ((0 : Int32), v0.2.1, v0.2.2)]) X dX5_clear_2 ck_X5 ct_X5 0 0 0 rfl rfl (Nat.le_of_ble_eq_true rfl) lkf_X5_7 rfl rfl rfl (Nat.le_of_ble_eq_true rfl) rfl ?_
  refine g_aload_n X dX5_clear_5 0 rfl rfl ?_
  refine g_iconst X (0 : Int32) dX5_clear_6 (by decide) ?_
  refine g_put (gs' := [TA h0 ((0 : Int32), (0 : Int32), v0.2.2)]) X dX5_clear_7 ck_X5 ct_X5 0 0 1 rfl rfl (Nat.le_of_ble_eq_true rfl) lkf_X5_13 rfl rfl rfl (Nat.le_of_ble_eq_true rfl) rfl ?_
  refine g_aload_n X dX5_clear_10 0 rfl rfl ?_
  refine g_iconst X (0 : Int32) dX5_clear_11 (by decide) ?_
  refine g_put (gs' := [TA h0 ((0 : Int32), (0 : Int32), (0 : Int32))]) X dX5_clear_12 ck_X5 ct_X5 0 0 2 rfl rfl (Nat.le_of_ble_eq_true rfl) lkf_X5_16 rfl rfl rfl (Nat.le_of_ble_eq_true rfl) rfl ?_
  have hf := Option.some.inj hf
  subst hf
  exact g_vret X hr dX5_clear_15
abbrev rmX5_add : Room := ({ frames := 0, cells := 0, slots := 0, locals := 0 } : Room)
def f_X5_add (v0 : TAv) (p1 : Int32) (p2 : Int32) : Option (TAv) :=
  if p1 = 0 then some ((v0.1 + p2), v0.2.1, v0.2.2) else if p1 = (1 : Int32) then some (v0.1, (v0.2.1 + p2), v0.2.2) else some (v0.1, v0.2.1, (v0.2.2 + p2))
set_option maxRecDepth 100000 in
set_option maxHeartbeats 4000000 in
theorem c_X5_add (l : Launch) (D : va_G) (cy : Nat → ClassId) (ad : (Nat → Nat) × (Nat → Nat)) (h0 : Nat) (v0 : TAv) (p1 : Int32) (p2 : Int32) {q : TAv} (hf : f_X5_add v0 p1 p2 = some q) : CM l yX5_add cX5_add 3 none rmX5_add D cy ad [.ref h0, .int p1, .int p2] [TA h0 v0] none [TA h0 q] := by
  refine cm_of (lv0 := [(0, .ref h0), (1, .int p1), (2, .int p2)]) (by decide) (Nat.le_of_ble_eq_true rfl) rfl ?_
  intro p e s m args below meth c A X hr hn
  have X : gK p s m args meth c A D cy ad cX5_add 3 RX5 := X
  unfold f_X5_add at hf
  refine g_iload_n X dX5_add_0 1 rfl rfl ?_
  refine g_if_ne X 17 dX5_add_1 (by decide) (fun c67 => ?_) (fun c67 => ?_)
  · have hf := oneg c67 hf
    refine g_iload_n X dX5_add_17 1 rfl rfl ?_
    refine g_iconst X (1 : Int32) dX5_add_18 (by decide) ?_
    refine g_icmp_ne X 35 dX5_add_19 (by decide) (fun c66 => ?_) (fun c66 => ?_)
    · have hf := oneg c66 hf
      refine g_aload_n X dX5_add_35 0 rfl rfl ?_
      refine g_dup X dX5_add_36 rfl ?_
      refine g_get X dX5_add_37 ck_X5 0 0 2 rfl rfl (Nat.le_of_ble_eq_true rfl) lkf_X5_16 rfl ?_
      refine g_iload_n X dX5_add_40 2 rfl rfl ?_
      refine g_iadd X dX5_add_41 ?_
      refine g_put (gs' := [TA h0 (v0.1, v0.2.1, (v0.2.2 + p2))]) X dX5_add_42 ck_X5 ct_X5 0 0 2 rfl rfl (Nat.le_of_ble_eq_true rfl) lkf_X5_16 rfl rfl rfl (Nat.le_of_ble_eq_true rfl) rfl ?_
      have hf := Option.some.inj hf
      subst hf
      exact g_vret X hr dX5_add_45
    · have hf := opos c66 hf
      refine g_aload_n X dX5_add_22 0 rfl rfl ?_
      refine g_dup X dX5_add_23 rfl ?_
      refine g_get X dX5_add_24 ck_X5 0 0 1 rfl rfl (Nat.le_of_ble_eq_true rfl) lkf_X5_13 rfl ?_
      refine g_iload_n X dX5_add_27 2 rfl rfl ?_
      refine g_iadd X dX5_add_28 ?_
      refine g_put (gs' := [TA h0 (v0.1, (v0.2.1 + p2), v0.2.2)]) X dX5_add_29 ck_X5 ct_X5 0 0 1 rfl rfl (Nat.le_of_ble_eq_true rfl) lkf_X5_13 rfl rfl rfl (Nat.le_of_ble_eq_true rfl) rfl ?_
      refine g_goto X 45 dX5_add_32 (by decide) ?_
      have hf := Option.some.inj hf
      subst hf
      exact g_vret X hr dX5_add_45
  · have hf := opos c67 hf
    refine g_aload_n X dX5_add_4 0 rfl rfl ?_
    refine g_dup X dX5_add_5 rfl ?_
    refine g_get X dX5_add_6 ck_X5 0 0 0 rfl rfl (Nat.le_of_ble_eq_true rfl) lkf_X5_7 rfl ?_
    refine g_iload_n X dX5_add_9 2 rfl rfl ?_
    refine g_iadd X dX5_add_10 ?_
    refine g_put (gs' := [TA h0 ((v0.1 + p2), v0.2.1, v0.2.2)]) X dX5_add_11 ck_X5 ct_X5 0 0 0 rfl rfl (Nat.le_of_ble_eq_true rfl) lkf_X5_7 rfl rfl rfl (Nat.le_of_ble_eq_true rfl) rfl ?_
    refine g_goto X 45 dX5_add_14 (by decide) ?_
    have hf := Option.some.inj hf
    subst hf
    exact g_vret X hr dX5_add_45
abbrev rmX3_sort : Room := ({ frames := 1, cells := 0, slots := 0, locals := 25 } : Room)
def f_X3_sort_B6_b26 (v0 : Fn) (w0 : SCv) (w1 : TAv) (x3 : Int32) (y0 : Int32) : Option ((Int32 × TAv) ⊕ ((TAv))) :=
  if x3 < 0 ∨ 6 ≤ x3.toNatClampNeg then none else if x3 < 0 ∨ 6 ≤ x3.toNatClampNeg then none else if x3 < 0 ∨ 6 ≤ x3.toNatClampNeg then none else (f_X1_outcome w0 (x3 / (2 : Int32)) y0 (0 : Int32)).bind (fun q92 => (f_J6_bitCount_0f7a4 ((v0 x3.toNatClampNeg) &&& w0.1)).bind (fun q93 => (f_X5_add w1 q92 q93).bind (fun q94 => (f_X1_outcome w0 (x3 / (2 : Int32)) (0 : Int32) y0).bind (fun q95 => (f_J6_bitCount_0f7a4 ((v0 x3.toNatClampNeg) &&& w0.2.1)).bind (fun q96 => (f_X5_add q94 q95 q96).bind (fun q97 => (f_X1_outcome w0 (x3 / (2 : Int32)) (0 : Int32) (0 : Int32)).bind (fun q98 => (f_J6_bitCount_0f7a4 ((v0 x3.toNatClampNeg) &&& ((w0.1 ||| w0.2.1) ^^^ (-1 : Int32)))).bind (fun q99 => (f_X5_add q97 q98 q99).bind (fun q100 => some (.inl ((x3 + (1 : Int32)), q100)))))))))))
set_option maxRecDepth 100000 in
set_option maxHeartbeats 4000000 in
theorem j_X3_sort_B6_b26 {p : Program} {l : Launch} {e : Env} {s : State} {m : MethodId} {args : Array Value} {below : List Frame} {meth : Method} {c : Code} {A : Nat → Prop} {D : va_G} {cy : Nat → ClassId} {ad : (Nat → Nat) × (Nat → Nat)} {Q : State → Prop} (X : gK p s m args meth c A D cy ad cX3_sort 8 RX3) (hr : meth.sig.returnType = none) {h0 h1 g0 g1 : Nat} (v0 : Fn) (w0 : SCv) (w1 : TAv) (x3 : Int32) (y0 : Int32) {q : (Int32 × TAv) ⊕ ((TAv))} (hf : f_X3_sort_B6_b26 v0 w0 w1 x3 y0 = some q) (K1 : ∀ s' : Int32 × TAv, q = .inl s' → GW p l e rmX3_sort s m args below meth c A D 8 0 0 Q 6 [(0, .ref h0), (1, .ref g0), (2, .ref g1), (3, .int s'.1)] [] [SU cy h0 h1 v0, SC g0 w0, TA g1 (s'.2.1, s'.2.2.1, s'.2.2.2)]) (K2 : ∀ e' : TAv, q = .inr (e') → GW p l e rmX3_sort s m args below meth c A D 8 0 0 Q 136 [] [] [SU cy h0 h1 v0, SC g0 w0, TA g1 (e'.1, e'.2.1, e'.2.2)]) : GW p l e rmX3_sort s m args below meth c A D 8 0 0 Q 26 [(0, .ref h0), (1, .ref g0), (2, .ref g1), (3, .int x3)] [.int y0] [SU cy h0 h1 v0, SC g0 w0, TA g1 w1] := by
  unfold f_X3_sort_B6_b26 at hf
  refine g_istore (lv' := [(0, .ref h0), (1, .ref g0), (2, .ref g1), (3, .int x3), (4, .int y0)]) X dX3_sort_26 [1, 2, 3, 4, 0] (Nat.le_of_ble_eq_true rfl) rfl ?_
  refine g_aload_n X dX3_sort_28 0 rfl rfl ?_
  refine g_get X dX3_sort_29 ck_X3 0 0 0 rfl rfl (Nat.le_of_ble_eq_true rfl) lkf_X3_9 rfl ?_
  refine g_iload_n X dX3_sort_32 3 rfl rfl ?_
  obtain ⟨n89, hf⟩ := oguard hf
  refine g_iaload X dX3_sort_33 0 1 rfl rfl n89 ?_
  refine g_aload_n X dX3_sort_34 1 rfl rfl ?_
  refine g_get X dX3_sort_35 ck_X1 1 0 0 rfl rfl (Nat.le_of_ble_eq_true rfl) lkf_X3_27 rfl ?_
  refine g_iand X dX3_sort_38 ?_
  refine g_istore (lv' := [(0, .ref h0), (1, .ref g0), (2, .ref g1), (3, .int x3), (4, .int y0), (5, .int ((v0 x3.toNatClampNeg) &&& w0.1))]) X dX3_sort_39 [1, 2, 3, 4, 5, 0] (Nat.le_of_ble_eq_true rfl) rfl ?_
  refine g_aload_n X dX3_sort_41 0 rfl rfl ?_
  refine g_get X dX3_sort_42 ck_X3 0 0 0 rfl rfl (Nat.le_of_ble_eq_true rfl) lkf_X3_9 rfl ?_
  refine g_iload_n X dX3_sort_45 3 rfl rfl ?_
  obtain ⟨n90, hf⟩ := oguard hf
  refine g_iaload X dX3_sort_46 0 1 rfl rfl n90 ?_
  refine g_aload_n X dX3_sort_47 1 rfl rfl ?_
  refine g_get X dX3_sort_48 ck_X1 1 0 1 rfl rfl (Nat.le_of_ble_eq_true rfl) lkf_X3_31 rfl ?_
  refine g_iand X dX3_sort_51 ?_
  refine g_istore (lv' := [(0, .ref h0), (1, .ref g0), (2, .ref g1), (3, .int x3), (4, .int y0), (5, .int ((v0 x3.toNatClampNeg) &&& w0.1)), (6, .int ((v0 x3.toNatClampNeg) &&& w0.2.1))]) X dX3_sort_52 [1, 2, 3, 4, 5, 6, 0] (Nat.le_of_ble_eq_true rfl) rfl ?_
  refine g_aload_n X dX3_sort_54 0 rfl rfl ?_
  refine g_get X dX3_sort_55 ck_X3 0 0 0 rfl rfl (Nat.le_of_ble_eq_true rfl) lkf_X3_9 rfl ?_
  refine g_iload_n X dX3_sort_58 3 rfl rfl ?_
  obtain ⟨n91, hf⟩ := oguard hf
  refine g_iaload X dX3_sort_59 0 1 rfl rfl n91 ?_
  refine g_aload_n X dX3_sort_60 1 rfl rfl ?_
  refine g_get X dX3_sort_61 ck_X1 1 0 0 rfl rfl (Nat.le_of_ble_eq_true rfl) lkf_X3_27 rfl ?_
  refine g_aload_n X dX3_sort_64 1 rfl rfl ?_
  refine g_get X dX3_sort_65 ck_X1 1 0 1 rfl rfl (Nat.le_of_ble_eq_true rfl) lkf_X3_31 rfl ?_
  refine g_ior X dX3_sort_68 ?_
  refine g_iconst X (-1 : Int32) dX3_sort_69 (by decide) ?_
  refine g_ixor X dX3_sort_70 ?_
  refine g_iand X dX3_sort_71 ?_
  refine g_istore (lv' := [(0, .ref h0), (1, .ref g0), (2, .ref g1), (3, .int x3), (4, .int y0), (5, .int ((v0 x3.toNatClampNeg) &&& w0.1)), (6, .int ((v0 x3.toNatClampNeg) &&& w0.2.1)), (7, .int ((v0 x3.toNatClampNeg) &&& ((w0.1 ||| w0.2.1) ^^^ (-1 : Int32))))]) X dX3_sort_72 [1, 2, 3, 4, 5, 6, 7, 0] (Nat.le_of_ble_eq_true rfl) rfl ?_
  refine g_aload_n X dX3_sort_74 2 rfl rfl ?_
  refine g_aload_n X dX3_sort_75 1 rfl rfl ?_
  refine g_iload_n X dX3_sort_76 3 rfl rfl ?_
  refine g_iconst X (2 : Int32) dX3_sort_77 (by decide) ?_
  refine g_idiv X dX3_sort_78 (by decide) ?_
  refine g_iload X dX3_sort_79 4 rfl ?_
  refine g_iconst X (0 : Int32) dX3_sort_81 (by decide) ?_
  obtain ⟨q92, hq92, hf⟩ := obind hf
  refine g_callV (gs' := [SU cy h0 h1 v0, SC g0 w0, TA g1 w1]) (rest := [.ref g1]) X dX3_sort_82 (c_X1_outcome l D cy ad g0 w0 (x3 / (2 : Int32)) y0 (0 : Int32) hq92) mf_X1_outcome mv_X1_outcome lkm_X3_21 ⟨(Nat.le_of_ble_eq_true rfl), (Nat.le_of_ble_eq_true rfl), (Nat.le_of_ble_eq_true rfl), (Nat.le_of_ble_eq_true rfl)⟩ 1 0 rfl rfl rfl rfl [1, 0, 2] _ (by decide : [1, 0, 2].Perm (List.range 3)) rfl (by decide : [1, 0, 2].Perm (List.range 3)) rfl (Nat.le_of_ble_eq_true rfl) rfl ?_
  refine g_iload X dX3_sort_85 5 rfl ?_
  obtain ⟨q93, hq93, hf⟩ := obind hf
  refine g_callS (gs' := [SU cy h0 h1 v0, SC g0 w0, TA g1 w1]) (rest := [.int q92, .ref g1]) X dX3_sort_87 (c_J6_bitCount_0f7a4 l D cy ad ((v0 x3.toNatClampNeg) &&& w0.1) hq93) mf_J6_bitCount_0f7a4 ms_J6_bitCount_0f7a4 lkm_X3_15 ⟨(Nat.le_of_ble_eq_true rfl), (Nat.le_of_ble_eq_true rfl), (Nat.le_of_ble_eq_true rfl), (Nat.le_of_ble_eq_true rfl)⟩ [0, 1, 2] _ (by decide : [0, 1, 2].Perm (List.range 3)) rfl (by decide : [0, 1, 2].Perm (List.range 3)) rfl (Nat.le_of_ble_eq_true rfl) rfl ?_
  obtain ⟨q94, hq94, hf⟩ := obind hf
  refine g_callV (gs' := [SU cy h0 h1 v0, SC g0 w0, TA g1 q94]) (rest := []) X dX3_sort_90 (c_X5_add l D cy ad g1 w1 q92 q93 hq94) mf_X5_add mv_X5_add lkm_X3_39 ⟨(Nat.le_of_ble_eq_true rfl), (Nat.le_of_ble_eq_true rfl), (Nat.le_of_ble_eq_true rfl), (Nat.le_of_ble_eq_true rfl)⟩ 2 0 rfl rfl rfl rfl [2, 0, 1] _ (by decide : [2, 0, 1].Perm (List.range 3)) rfl (by decide : [2, 0, 1].Perm (List.range 3)) rfl (Nat.le_of_ble_eq_true rfl) rfl ?_
  refine g_aload_n X dX3_sort_93 2 rfl rfl ?_
  refine g_aload_n X dX3_sort_94 1 rfl rfl ?_
  refine g_iload_n X dX3_sort_95 3 rfl rfl ?_
  refine g_iconst X (2 : Int32) dX3_sort_96 (by decide) ?_
  refine g_idiv X dX3_sort_97 (by decide) ?_
  refine g_iconst X (0 : Int32) dX3_sort_98 (by decide) ?_
  refine g_iload X dX3_sort_99 4 rfl ?_
  obtain ⟨q95, hq95, hf⟩ := obind hf
  refine g_callV (gs' := [SU cy h0 h1 v0, SC g0 w0, TA g1 q94]) (rest := [.ref g1]) X dX3_sort_101 (c_X1_outcome l D cy ad g0 w0 (x3 / (2 : Int32)) (0 : Int32) y0 hq95) mf_X1_outcome mv_X1_outcome lkm_X3_21 ⟨(Nat.le_of_ble_eq_true rfl), (Nat.le_of_ble_eq_true rfl), (Nat.le_of_ble_eq_true rfl), (Nat.le_of_ble_eq_true rfl)⟩ 1 0 rfl rfl rfl rfl [1, 0, 2] _ (by decide : [1, 0, 2].Perm (List.range 3)) rfl (by decide : [1, 0, 2].Perm (List.range 3)) rfl (Nat.le_of_ble_eq_true rfl) rfl ?_
  refine g_iload X dX3_sort_104 6 rfl ?_
  obtain ⟨q96, hq96, hf⟩ := obind hf
  refine g_callS (gs' := [SU cy h0 h1 v0, SC g0 w0, TA g1 q94]) (rest := [.int q95, .ref g1]) X dX3_sort_106 (c_J6_bitCount_0f7a4 l D cy ad ((v0 x3.toNatClampNeg) &&& w0.2.1) hq96) mf_J6_bitCount_0f7a4 ms_J6_bitCount_0f7a4 lkm_X3_15 ⟨(Nat.le_of_ble_eq_true rfl), (Nat.le_of_ble_eq_true rfl), (Nat.le_of_ble_eq_true rfl), (Nat.le_of_ble_eq_true rfl)⟩ [0, 1, 2] _ (by decide : [0, 1, 2].Perm (List.range 3)) rfl (by decide : [0, 1, 2].Perm (List.range 3)) rfl (Nat.le_of_ble_eq_true rfl) rfl ?_
  obtain ⟨q97, hq97, hf⟩ := obind hf
  refine g_callV (gs' := [SU cy h0 h1 v0, SC g0 w0, TA g1 q97]) (rest := []) X dX3_sort_109 (c_X5_add l D cy ad g1 q94 q95 q96 hq97) mf_X5_add mv_X5_add lkm_X3_39 ⟨(Nat.le_of_ble_eq_true rfl), (Nat.le_of_ble_eq_true rfl), (Nat.le_of_ble_eq_true rfl), (Nat.le_of_ble_eq_true rfl)⟩ 2 0 rfl rfl rfl rfl [2, 0, 1] _ (by decide : [2, 0, 1].Perm (List.range 3)) rfl (by decide : [2, 0, 1].Perm (List.range 3)) rfl (Nat.le_of_ble_eq_true rfl) rfl ?_
  refine g_aload_n X dX3_sort_112 2 rfl rfl ?_
  refine g_aload_n X dX3_sort_113 1 rfl rfl ?_
  refine g_iload_n X dX3_sort_114 3 rfl rfl ?_
  refine g_iconst X (2 : Int32) dX3_sort_115 (by decide) ?_
  refine g_idiv X dX3_sort_116 (by decide) ?_
  refine g_iconst X (0 : Int32) dX3_sort_117 (by decide) ?_
  refine g_iconst X (0 : Int32) dX3_sort_118 (by decide) ?_
  obtain ⟨q98, hq98, hf⟩ := obind hf
  refine g_callV (gs' := [SU cy h0 h1 v0, SC g0 w0, TA g1 q97]) (rest := [.ref g1]) X dX3_sort_119 (c_X1_outcome l D cy ad g0 w0 (x3 / (2 : Int32)) (0 : Int32) (0 : Int32) hq98) mf_X1_outcome mv_X1_outcome lkm_X3_21 ⟨(Nat.le_of_ble_eq_true rfl), (Nat.le_of_ble_eq_true rfl), (Nat.le_of_ble_eq_true rfl), (Nat.le_of_ble_eq_true rfl)⟩ 1 0 rfl rfl rfl rfl [1, 0, 2] _ (by decide : [1, 0, 2].Perm (List.range 3)) rfl (by decide : [1, 0, 2].Perm (List.range 3)) rfl (Nat.le_of_ble_eq_true rfl) rfl ?_
  refine g_iload X dX3_sort_122 7 rfl ?_
  obtain ⟨q99, hq99, hf⟩ := obind hf
  refine g_callS (gs' := [SU cy h0 h1 v0, SC g0 w0, TA g1 q97]) (rest := [.int q98, .ref g1]) X dX3_sort_124 (c_J6_bitCount_0f7a4 l D cy ad ((v0 x3.toNatClampNeg) &&& ((w0.1 ||| w0.2.1) ^^^ (-1 : Int32))) hq99) mf_J6_bitCount_0f7a4 ms_J6_bitCount_0f7a4 lkm_X3_15 ⟨(Nat.le_of_ble_eq_true rfl), (Nat.le_of_ble_eq_true rfl), (Nat.le_of_ble_eq_true rfl), (Nat.le_of_ble_eq_true rfl)⟩ [0, 1, 2] _ (by decide : [0, 1, 2].Perm (List.range 3)) rfl (by decide : [0, 1, 2].Perm (List.range 3)) rfl (Nat.le_of_ble_eq_true rfl) rfl ?_
  obtain ⟨q100, hq100, hf⟩ := obind hf
  refine g_callV (gs' := [SU cy h0 h1 v0, SC g0 w0, TA g1 q100]) (rest := []) X dX3_sort_127 (c_X5_add l D cy ad g1 q97 q98 q99 hq100) mf_X5_add mv_X5_add lkm_X3_39 ⟨(Nat.le_of_ble_eq_true rfl), (Nat.le_of_ble_eq_true rfl), (Nat.le_of_ble_eq_true rfl), (Nat.le_of_ble_eq_true rfl)⟩ 2 0 rfl rfl rfl rfl [2, 0, 1] _ (by decide : [2, 0, 1].Perm (List.range 3)) rfl (by decide : [2, 0, 1].Perm (List.range 3)) rfl (Nat.le_of_ble_eq_true rfl) rfl ?_
  refine g_iinc (lv' := [(0, .ref h0), (1, .ref g0), (2, .ref g1), (3, .int (x3 + (1 : Int32))), (4, .int y0), (5, .int ((v0 x3.toNatClampNeg) &&& w0.1)), (6, .int ((v0 x3.toNatClampNeg) &&& w0.2.1)), (7, .int ((v0 x3.toNatClampNeg) &&& ((w0.1 ||| w0.2.1) ^^^ (-1 : Int32))))]) (v := (1 : Int32)) X dX3_sort_130 3 rfl (by decide) [1, 2, 3, 0, 4, 5, 6, 7] (Nat.le_of_ble_eq_true rfl) rfl ?_
  refine g_goto X 6 dX3_sort_133 (by decide) ?_
  refine g_sub [0, 1, 2, 3] (lv' := [(0, .ref h0), (1, .ref g0), (2, .ref g1), (3, .int (x3 + (1 : Int32)))]) rfl ?_
  exact K1 ((x3 + (1 : Int32)), q100) (Option.some.inj hf).symm
def f_X3_sort_B6 (v0 : Fn) (w0 : SCv) (z : Int32 × TAv) : Option ((Int32 × TAv) ⊕ ((TAv))) :=
  if (6 : Int32) ≤ z.1 then some (.inr ((z.2))) else if (z.1 - z.1 / (2 : Int32) * (2 : Int32)) = 0 then f_X3_sort_B6_b26 v0 w0 z.2 z.1 (-1 : Int32) else f_X3_sort_B6_b26 v0 w0 z.2 z.1 (1 : Int32)
set_option maxRecDepth 100000 in
set_option maxHeartbeats 4000000 in
theorem b_X3_sort_B6 {p : Program} {l : Launch} {e : Env} {s : State} {m : MethodId} {args : Array Value} {below : List Frame} {meth : Method} {c : Code} {A : Nat → Prop} {D : va_G} {cy : Nat → ClassId} {ad : (Nat → Nat) × (Nat → Nat)} {Q : State → Prop} (X : gK p s m args meth c A D cy ad cX3_sort 8 RX3) (hr : meth.sig.returnType = none) {h0 h1 g0 g1 : Nat} (v0 : Fn) (w0 : SCv) (z : Int32 × TAv) {q : (Int32 × TAv) ⊕ ((TAv))} (hf : f_X3_sort_B6 v0 w0 z = some q) (K1 : ∀ s' : Int32 × TAv, q = .inl s' → GW p l e rmX3_sort s m args below meth c A D 8 0 0 Q 6 [(0, .ref h0), (1, .ref g0), (2, .ref g1), (3, .int s'.1)] [] [SU cy h0 h1 v0, SC g0 w0, TA g1 (s'.2.1, s'.2.2.1, s'.2.2.2)]) (K2 : ∀ e' : TAv, q = .inr (e') → GW p l e rmX3_sort s m args below meth c A D 8 0 0 Q 136 [] [] [SU cy h0 h1 v0, SC g0 w0, TA g1 (e'.1, e'.2.1, e'.2.2)]) : GW p l e rmX3_sort s m args below meth c A D 8 0 0 Q 6 [(0, .ref h0), (1, .ref g0), (2, .ref g1), (3, .int z.1)] [] [SU cy h0 h1 v0, SC g0 w0, TA g1 z.2] := by
  unfold f_X3_sort_B6 at hf
  refine g_iload_n X dX3_sort_6 3 rfl rfl ?_
  refine g_aload_n X dX3_sort_7 0 rfl rfl ?_
  refine g_get X dX3_sort_8 ck_X3 0 0 0 rfl rfl (Nat.le_of_ble_eq_true rfl) lkf_X3_9 rfl ?_
  refine g_alen0 (v := (6 : Int32)) X dX3_sort_11 0 1 rfl rfl (by decide : Int32.ofNat 6 = (6 : Int32)) ?_
  refine g_icmp_ge X 136 dX3_sort_12 (by decide) (fun c102 => ?_) (fun c102 => ?_)
  · have hf := opos c102 hf
    refine g_sub [] (lv' := []) rfl ?_
    exact K2 (z.2) (Option.some.inj hf).symm
  · have hf := oneg c102 hf
    refine g_iload_n X dX3_sort_15 3 rfl rfl ?_
    refine g_iconst X (2 : Int32) dX3_sort_16 (by decide) ?_
    refine g_irem X dX3_sort_17 (by decide) ?_
    refine g_if_ne X 25 dX3_sort_18 (by decide) (fun c101 => ?_) (fun c101 => ?_)
    · have hf := oneg c101 hf
      refine g_iconst X (1 : Int32) dX3_sort_25 (by decide) ?_
      exact j_X3_sort_B6_b26 X hr v0 w0 z.2 z.1 (1 : Int32) hf K1 K2
    · have hf := opos c101 hf
      refine g_iconst X (-1 : Int32) dX3_sort_21 (by decide) ?_
      refine g_goto X 26 dX3_sort_22 (by decide) ?_
      exact j_X3_sort_B6_b26 X hr v0 w0 z.2 z.1 (-1 : Int32) hf K1 K2
set_option maxRecDepth 100000 in
set_option maxHeartbeats 4000000 in
theorem w_X3_sort_B6 {p : Program} {l : Launch} {e : Env} {s : State} {m : MethodId} {args : Array Value} {below : List Frame} {meth : Method} {c : Code} {A : Nat → Prop} {D : va_G} {cy : Nat → ClassId} {ad : (Nat → Nat) × (Nat → Nat)} {Q : State → Prop} (X : gK p s m args meth c A D cy ad cX3_sort 8 RX3) (hr : meth.sig.returnType = none) {h0 h1 g0 g1 : Nat} (v0 : Fn) (w0 : SCv) {n : Nat} {z : Int32 × TAv} {q : (TAv)} (hf : itl (f_X3_sort_B6 v0 w0) n z = some q) (K2 : GW p l e rmX3_sort s m args below meth c A D 8 0 0 Q 136 [] [] [SU cy h0 h1 v0, SC g0 w0, TA g1 q]) : GW p l e rmX3_sort s m args below meth c A D 8 0 0 Q 6 [(0, .ref h0), (1, .ref g0), (2, .ref g1), (3, .int z.1)] [] [SU cy h0 h1 v0, SC g0 w0, TA g1 z.2] :=
  itl_ind (f := f_X3_sort_B6 v0 w0) (I := fun z => GW p l e rmX3_sort s m args below meth c A D 8 0 0 Q 6 [(0, .ref h0), (1, .ref g0), (2, .ref g1), (3, .int z.1)] [] [SU cy h0 h1 v0, SC g0 w0, TA g1 z.2]) (J := (fun q => GW p l e rmX3_sort s m args below meth c A D 8 0 0 Q 136 [] [] [SU cy h0 h1 v0, SC g0 w0, TA g1 q])) (fun z x h k1 k2 => b_X3_sort_B6 X hr v0 w0 z h (fun s' hs => k1 s' hs) (fun e' he => k2 e' he)) n z q hf K2
def f_X3_sort (v0 : Fn) (w0 : SCv) (w1 : TAv) : Option (TAv) :=
  (f_X5_clear w1).bind (fun q88 => (itl (f_X3_sort_B6 v0 w0) FU ((0 : Int32), q88)).bind (fun q103 => some q103))
set_option maxRecDepth 100000 in
set_option maxHeartbeats 4000000 in
theorem c_X3_sort (l : Launch) (D : va_G) (cy : Nat → ClassId) (ad : (Nat → Nat) × (Nat → Nat)) (h0 : Nat) (h1 : Nat) (g0 : Nat) (g1 : Nat) (v0 : Fn) (w0 : SCv) (w1 : TAv) {q : TAv} (hf : f_X3_sort v0 w0 w1 = some q) : CM l yX3_sort cX3_sort 8 none rmX3_sort D cy ad [.ref h0, .ref g0, .ref g1] [SU cy h0 h1 v0, SC g0 w0, TA g1 w1] none [SU cy h0 h1 v0, SC g0 w0, TA g1 q] := by
  refine cm_of (lv0 := [(0, .ref h0), (1, .ref g0), (2, .ref g1)]) (by decide) (Nat.le_of_ble_eq_true rfl) rfl ?_
  intro p e s m args below meth c A X hr hn
  have X : gK p s m args meth c A D cy ad cX3_sort 8 RX3 := X
  unfold f_X3_sort at hf
  refine g_aload_n X dX3_sort_0 2 rfl rfl ?_
  obtain ⟨q88, hq88, hf⟩ := obind hf
  refine g_callV (gs' := [SU cy h0 h1 v0, SC g0 w0, TA g1 q88]) (rest := []) X dX3_sort_1 (c_X5_clear l D cy ad g1 w1 hq88) mf_X5_clear mv_X5_clear lkm_X3_34 ⟨(Nat.le_of_ble_eq_true rfl), (Nat.le_of_ble_eq_true rfl), (Nat.le_of_ble_eq_true rfl), (Nat.le_of_ble_eq_true rfl)⟩ 2 0 rfl rfl rfl rfl [2, 0, 1] _ (by decide : [2, 0, 1].Perm (List.range 3)) rfl (by decide : [2, 0, 1].Perm (List.range 3)) rfl (Nat.le_of_ble_eq_true rfl) rfl ?_
  refine g_iconst X (0 : Int32) dX3_sort_4 (by decide) ?_
  refine g_istore_n (lv' := [(0, .ref h0), (1, .ref g0), (2, .ref g1), (3, .int (0 : Int32))]) X dX3_sort_5 [1, 2, 3, 0] rfl (Nat.le_of_ble_eq_true rfl) rfl ?_
  obtain ⟨q103, hq103, hf⟩ := obind hf
  refine w_X3_sort_B6 X hr v0 w0 hq103 ?_
  have hf := Option.some.inj hf
  subst hf
  exact g_vret X hr dX3_sort_136
abbrev rmX7_casesOf : Room := ({ frames := 0, cells := 0, slots := 0, locals := 0 } : Room)
def f_X7_casesOf (p0 : Int32) : Option (Int32) :=
  some ((3 : Int32) * (((2 : Int32) * p0) + (1 : Int32)))
set_option maxRecDepth 100000 in
set_option maxHeartbeats 4000000 in
theorem c_X7_casesOf (l : Launch) (D : va_G) (cy : Nat → ClassId) (ad : (Nat → Nat) × (Nat → Nat)) (p0 : Int32) {q : Int32} (hf : f_X7_casesOf p0 = some q) : CM l yX7_casesOf cX7_casesOf 1 (some .int) rmX7_casesOf D cy ad [.int p0] [] (some (.int q)) [] := by
  refine cm_of (lv0 := [(0, .int p0)]) (by decide) (Nat.le_of_ble_eq_true rfl) rfl ?_
  intro p e s m args below meth c A X hr hn
  have X : gK p s m args meth c A D cy ad cX7_casesOf 1 RX7 := X
  unfold f_X7_casesOf at hf
  refine g_iconst X (3 : Int32) dX7_casesOf_0 (by decide) ?_
  refine g_iconst X (2 : Int32) dX7_casesOf_1 (by decide) ?_
  refine g_iload_n X dX7_casesOf_2 0 rfl rfl ?_
  refine g_imul X dX7_casesOf_3 ?_
  refine g_iconst X (1 : Int32) dX7_casesOf_4 (by decide) ?_
  refine g_iadd X dX7_casesOf_5 ?_
  refine g_imul X dX7_casesOf_6 ?_
  have hf := Option.some.inj hf
  subst hf
  exact g_iret X hr dX7_casesOf_7
abbrev rmX7_isArm : Room := ({ frames := 0, cells := 0, slots := 0, locals := 0 } : Room)
def f_X7_isArm (p0 : Int32) : Option (Bool) :=
  if p0 < (1 : Int32) then some false else if (20 : Int32) < p0 then some false else some true
set_option maxRecDepth 100000 in
set_option maxHeartbeats 4000000 in
theorem c_X7_isArm (l : Launch) (D : va_G) (cy : Nat → ClassId) (ad : (Nat → Nat) × (Nat → Nat)) (p0 : Int32) {q : Bool} (hf : f_X7_isArm p0 = some q) : CM l yX7_isArm cX7_isArm 1 (some .boolean) rmX7_isArm D cy ad [.int p0] [] (some (.int (b2i q))) [] := by
  refine cm_of (lv0 := [(0, .int p0)]) (by decide) (Nat.le_of_ble_eq_true rfl) rfl ?_
  intro p e s m args below meth c A X hr hn
  have X : gK p s m args meth c A D cy ad cX7_isArm 1 RX7 := X
  unfold f_X7_isArm at hf
  refine g_iload_n X dX7_isArm_0 0 rfl rfl ?_
  refine g_iconst X (1 : Int32) dX7_isArm_1 (by decide) ?_
  refine g_icmp_lt X 15 dX7_isArm_2 (by decide) (fun c128 => ?_) (fun c128 => ?_)
  · have hf := opos c128 hf
    refine g_iconst X (0 : Int32) dX7_isArm_15 (by decide) ?_
    have hf := Option.some.inj hf
    subst hf
    exact g_zret (b := false) X hr dX7_isArm_16
  · have hf := oneg c128 hf
    refine g_iload_n X dX7_isArm_5 0 rfl rfl ?_
    refine g_bipush X (20 : Int32) dX7_isArm_6 (by decide) ?_
    refine g_icmp_gt X 15 dX7_isArm_8 (by decide) (fun c127 => ?_) (fun c127 => ?_)
    · have hf := opos c127 hf
      refine g_iconst X (0 : Int32) dX7_isArm_15 (by decide) ?_
      have hf := Option.some.inj hf
      subst hf
      exact g_zret (b := false) X hr dX7_isArm_16
    · have hf := oneg c127 hf
      refine g_iconst X (1 : Int32) dX7_isArm_11 (by decide) ?_
      refine g_goto X 16 dX7_isArm_12 (by decide) ?_
      have hf := Option.some.inj hf
      subst hf
      exact g_zret (b := true) X hr dX7_isArm_16
abbrev rmX5_of : Room := ({ frames := 0, cells := 0, slots := 0, locals := 0 } : Room)
def f_X5_of (v0 : TAv) (p1 : Int32) : Option (Int32) :=
  if p1 = 0 then some v0.1 else if p1 = (1 : Int32) then some v0.2.1 else some v0.2.2
set_option maxRecDepth 100000 in
set_option maxHeartbeats 4000000 in
theorem c_X5_of (l : Launch) (D : va_G) (cy : Nat → ClassId) (ad : (Nat → Nat) × (Nat → Nat)) (h0 : Nat) (v0 : TAv) (p1 : Int32) {q : Int32} (hf : f_X5_of v0 p1 = some q) : CM l yX5_of cX5_of 2 (some .int) rmX5_of D cy ad [.ref h0, .int p1] [TA h0 v0] (some (.int q)) [TA h0 v0] := by
  refine cm_of (lv0 := [(0, .ref h0), (1, .int p1)]) (by decide) (Nat.le_of_ble_eq_true rfl) rfl ?_
  intro p e s m args below meth c A X hr hn
  have X : gK p s m args meth c A D cy ad cX5_of 2 RX5 := X
  unfold f_X5_of at hf
  refine g_iload_n X dX5_of_0 1 rfl rfl ?_
  refine g_if_ne X 11 dX5_of_1 (by decide) (fun c244 => ?_) (fun c244 => ?_)
  · have hf := oneg c244 hf
    refine g_iload_n X dX5_of_11 1 rfl rfl ?_
    refine g_iconst X (1 : Int32) dX5_of_12 (by decide) ?_
    refine g_icmp_ne X 23 dX5_of_13 (by decide) (fun c243 => ?_) (fun c243 => ?_)
    · have hf := oneg c243 hf
      refine g_aload_n X dX5_of_23 0 rfl rfl ?_
      refine g_get X dX5_of_24 ck_X5 0 0 2 rfl rfl (Nat.le_of_ble_eq_true rfl) lkf_X5_16 rfl ?_
      have hf := Option.some.inj hf
      subst hf
      exact g_iret X hr dX5_of_27
    · have hf := opos c243 hf
      refine g_aload_n X dX5_of_16 0 rfl rfl ?_
      refine g_get X dX5_of_17 ck_X5 0 0 1 rfl rfl (Nat.le_of_ble_eq_true rfl) lkf_X5_13 rfl ?_
      refine g_goto X 27 dX5_of_20 (by decide) ?_
      have hf := Option.some.inj hf
      subst hf
      exact g_iret X hr dX5_of_27
  · have hf := opos c244 hf
    refine g_aload_n X dX5_of_4 0 rfl rfl ?_
    refine g_get X dX5_of_5 ck_X5 0 0 0 rfl rfl (Nat.le_of_ble_eq_true rfl) lkf_X5_7 rfl ?_
    refine g_goto X 27 dX5_of_8 (by decide) ?_
    have hf := Option.some.inj hf
    subst hf
    exact g_iret X hr dX5_of_27
abbrev rmX5_worst : Room := ({ frames := 1, cells := 0, slots := 0, locals := 21 } : Room)
def f_X5_worst (v0 : TAv) : Option (Int32) :=
  some (if v0.1 < (if v0.2.1 < v0.2.2 then v0.2.2 else v0.2.1) then (if v0.2.1 < v0.2.2 then v0.2.2 else v0.2.1) else v0.1)
set_option maxRecDepth 100000 in
set_option maxHeartbeats 4000000 in
theorem c_X5_worst (l : Launch) (D : va_G) (cy : Nat → ClassId) (ad : (Nat → Nat) × (Nat → Nat)) (h0 : Nat) (v0 : TAv) {q : Int32} (hf : f_X5_worst v0 = some q) : CM l yX5_worst cX5_worst 1 (some .int) rmX5_worst D cy ad [.ref h0] [TA h0 v0] (some (.int q)) [TA h0 v0] := by
  refine cm_of (lv0 := [(0, .ref h0)]) (by decide) (Nat.le_of_ble_eq_true rfl) rfl ?_
  intro p e s m args below meth c A X hr hn
  have X : gK p s m args meth c A D cy ad cX5_worst 1 RX5 := X
  unfold f_X5_worst at hf
  refine g_aload_n X dX5_worst_0 0 rfl rfl ?_
  refine g_get X dX5_worst_1 ck_X5 0 0 0 rfl rfl (Nat.le_of_ble_eq_true rfl) lkf_X5_7 rfl ?_
  refine g_aload_n X dX5_worst_4 0 rfl rfl ?_
  refine g_get X dX5_worst_5 ck_X5 0 0 1 rfl rfl (Nat.le_of_ble_eq_true rfl) lkf_X5_13 rfl ?_
  refine g_aload_n X dX5_worst_8 0 rfl rfl ?_
  refine g_get X dX5_worst_9 ck_X5 0 0 2 rfl rfl (Nat.le_of_ble_eq_true rfl) lkf_X5_16 rfl ?_
  refine g_mmax X dX5_worst_12 lkm_X5_19 mw_max ⟨(Nat.le_of_ble_eq_true rfl), (Nat.le_of_ble_eq_true rfl), (Nat.le_of_ble_eq_true rfl), (Nat.le_of_ble_eq_true rfl)⟩ ?_
  refine g_mmax X dX5_worst_15 lkm_X5_19 mw_max ⟨(Nat.le_of_ble_eq_true rfl), (Nat.le_of_ble_eq_true rfl), (Nat.le_of_ble_eq_true rfl), (Nat.le_of_ble_eq_true rfl)⟩ ?_
  have hf := Option.some.inj hf
  subst hf
  exact g_iret X hr dX5_worst_18
abbrev rmX5_unlikePairs : Room := ({ frames := 0, cells := 0, slots := 0, locals := 0 } : Room)
def f_X5_unlikePairs (v0 : TAv) : Option (Int32) :=
  some (((v0.1 * v0.2.1) + (v0.1 * v0.2.2)) + (v0.2.1 * v0.2.2))
set_option maxRecDepth 100000 in
set_option maxHeartbeats 4000000 in
theorem c_X5_unlikePairs (l : Launch) (D : va_G) (cy : Nat → ClassId) (ad : (Nat → Nat) × (Nat → Nat)) (h0 : Nat) (v0 : TAv) {q : Int32} (hf : f_X5_unlikePairs v0 = some q) : CM l yX5_unlikePairs cX5_unlikePairs 1 (some .int) rmX5_unlikePairs D cy ad [.ref h0] [TA h0 v0] (some (.int q)) [TA h0 v0] := by
  refine cm_of (lv0 := [(0, .ref h0)]) (by decide) (Nat.le_of_ble_eq_true rfl) rfl ?_
  intro p e s m args below meth c A X hr hn
  have X : gK p s m args meth c A D cy ad cX5_unlikePairs 1 RX5 := X
  unfold f_X5_unlikePairs at hf
  refine g_aload_n X dX5_unlikePairs_0 0 rfl rfl ?_
  refine g_get X dX5_unlikePairs_1 ck_X5 0 0 0 rfl rfl (Nat.le_of_ble_eq_true rfl) lkf_X5_7 rfl ?_
  refine g_aload_n X dX5_unlikePairs_4 0 rfl rfl ?_
  refine g_get X dX5_unlikePairs_5 ck_X5 0 0 1 rfl rfl (Nat.le_of_ble_eq_true rfl) lkf_X5_13 rfl ?_
  refine g_imul X dX5_unlikePairs_8 ?_
  refine g_aload_n X dX5_unlikePairs_9 0 rfl rfl ?_
  refine g_get X dX5_unlikePairs_10 ck_X5 0 0 0 rfl rfl (Nat.le_of_ble_eq_true rfl) lkf_X5_7 rfl ?_
  refine g_aload_n X dX5_unlikePairs_13 0 rfl rfl ?_
  refine g_get X dX5_unlikePairs_14 ck_X5 0 0 2 rfl rfl (Nat.le_of_ble_eq_true rfl) lkf_X5_16 rfl ?_
  refine g_imul X dX5_unlikePairs_17 ?_
  refine g_iadd X dX5_unlikePairs_18 ?_
  refine g_aload_n X dX5_unlikePairs_19 0 rfl rfl ?_
  refine g_get X dX5_unlikePairs_20 ck_X5 0 0 1 rfl rfl (Nat.le_of_ble_eq_true rfl) lkf_X5_13 rfl ?_
  refine g_aload_n X dX5_unlikePairs_23 0 rfl rfl ?_
  refine g_get X dX5_unlikePairs_24 ck_X5 0 0 2 rfl rfl (Nat.le_of_ble_eq_true rfl) lkf_X5_16 rfl ?_
  refine g_imul X dX5_unlikePairs_27 ?_
  refine g_iadd X dX5_unlikePairs_28 ?_
  have hf := Option.some.inj hf
  subst hf
  exact g_iret X hr dX5_unlikePairs_29
abbrev rmX7_isPan : Room := ({ frames := 0, cells := 0, slots := 0, locals := 0 } : Room)
def f_X7_isPan (p0 : Int32) : Option (Bool) :=
  if p0 < 0 then some false else if (3 : Int32) ≤ p0 then some false else some true
set_option maxRecDepth 100000 in
set_option maxHeartbeats 4000000 in
theorem c_X7_isPan (l : Launch) (D : va_G) (cy : Nat → ClassId) (ad : (Nat → Nat) × (Nat → Nat)) (p0 : Int32) {q : Bool} (hf : f_X7_isPan p0 = some q) : CM l yX7_isPan cX7_isPan 1 (some .boolean) rmX7_isPan D cy ad [.int p0] [] (some (.int (b2i q))) [] := by
  refine cm_of (lv0 := [(0, .int p0)]) (by decide) (Nat.le_of_ble_eq_true rfl) rfl ?_
  intro p e s m args below meth c A X hr hn
  have X : gK p s m args meth c A D cy ad cX7_isPan 1 RX7 := X
  unfold f_X7_isPan at hf
  refine g_iload_n X dX7_isPan_0 0 rfl rfl ?_
  refine g_if_lt X 13 dX7_isPan_1 (by decide) (fun c523 => ?_) (fun c523 => ?_)
  · have hf := opos c523 hf
    refine g_iconst X (0 : Int32) dX7_isPan_13 (by decide) ?_
    have hf := Option.some.inj hf
    subst hf
    exact g_zret (b := false) X hr dX7_isPan_14
  · have hf := oneg c523 hf
    refine g_iload_n X dX7_isPan_4 0 rfl rfl ?_
    refine g_iconst X (3 : Int32) dX7_isPan_5 (by decide) ?_
    refine g_icmp_ge X 13 dX7_isPan_6 (by decide) (fun c522 => ?_) (fun c522 => ?_)
    · have hf := opos c522 hf
      refine g_iconst X (0 : Int32) dX7_isPan_13 (by decide) ?_
      have hf := Option.some.inj hf
      subst hf
      exact g_zret (b := false) X hr dX7_isPan_14
    · have hf := oneg c522 hf
      refine g_iconst X (1 : Int32) dX7_isPan_9 (by decide) ?_
      refine g_goto X 14 dX7_isPan_10 (by decide) ?_
      have hf := Option.some.inj hf
      subst hf
      exact g_zret (b := true) X hr dX7_isPan_14
abbrev rmX7_weighingsFor : Room := ({ frames := 0, cells := 0, slots := 0, locals := 0 } : Room)
def f_X7_weighingsFor_B6 (x0 : Int32) (z : Int32 × Int32 × Int32) : Option ((Int32 × Int32 × Int32) ⊕ ((Int32))) :=
  if (20 : Int32) ≤ z.2.2 then some (.inr ((z.1))) else if x0 ≤ z.2.1 then some (.inr ((z.1))) else some (.inl ((z.1 + (1 : Int32)), (z.2.1 * (3 : Int32)), (z.2.2 + (1 : Int32))))
set_option maxRecDepth 100000 in
set_option maxHeartbeats 4000000 in
theorem b_X7_weighingsFor_B6 {p : Program} {l : Launch} {e : Env} {s : State} {m : MethodId} {args : Array Value} {below : List Frame} {meth : Method} {c : Code} {A : Nat → Prop} {D : va_G} {cy : Nat → ClassId} {ad : (Nat → Nat) × (Nat → Nat)} {Q : State → Prop} (X : gK p s m args meth c A D cy ad cX7_weighingsFor 4 RX7) (hr : meth.sig.returnType = (some .int)) (x0 : Int32) (z : Int32 × Int32 × Int32) {q : (Int32 × Int32 × Int32) ⊕ ((Int32))} (hf : f_X7_weighingsFor_B6 x0 z = some q) (K1 : ∀ s' : Int32 × Int32 × Int32, q = .inl s' → GW p l e rmX7_weighingsFor s m args below meth c A D 4 0 0 Q 6 [(0, .int x0), (1, .int s'.1), (2, .int s'.2.1), (3, .int s'.2.2)] [] []) (K2 : ∀ e' : Int32, q = .inr (e') → GW p l e rmX7_weighingsFor s m args below meth c A D 4 0 0 Q 30 [(1, .int e')] [] []) : GW p l e rmX7_weighingsFor s m args below meth c A D 4 0 0 Q 6 [(0, .int x0), (1, .int z.1), (2, .int z.2.1), (3, .int z.2.2)] [] [] := by
  unfold f_X7_weighingsFor_B6 at hf
  refine g_iload_n X dX7_weighingsFor_6 3 rfl rfl ?_
  refine g_bipush X (20 : Int32) dX7_weighingsFor_7 (by decide) ?_
  refine g_icmp_ge X 30 dX7_weighingsFor_9 (by decide) (fun c635 => ?_) (fun c635 => ?_)
  · have hf := opos c635 hf
    refine g_sub [1] (lv' := [(1, .int z.1)]) rfl ?_
    exact K2 (z.1) (Option.some.inj hf).symm
  · have hf := oneg c635 hf
    refine g_iload_n X dX7_weighingsFor_12 2 rfl rfl ?_
    refine g_iload_n X dX7_weighingsFor_13 0 rfl rfl ?_
    refine g_icmp_ge X 30 dX7_weighingsFor_14 (by decide) (fun c634 => ?_) (fun c634 => ?_)
    · have hf := opos c634 hf
      refine g_sub [1] (lv' := [(1, .int z.1)]) rfl ?_
      exact K2 (z.1) (Option.some.inj hf).symm
    · have hf := oneg c634 hf
      refine g_iload_n X dX7_weighingsFor_17 2 rfl rfl ?_
      refine g_iconst X (3 : Int32) dX7_weighingsFor_18 (by decide) ?_
      refine g_imul X dX7_weighingsFor_19 ?_
      refine g_istore_n (lv' := [(0, .int x0), (1, .int z.1), (2, .int (z.2.1 * (3 : Int32))), (3, .int z.2.2)]) X dX7_weighingsFor_20 [1, 2, 0, 3] rfl (Nat.le_of_ble_eq_true rfl) rfl ?_
      refine g_iinc (lv' := [(0, .int x0), (1, .int (z.1 + (1 : Int32))), (2, .int (z.2.1 * (3 : Int32))), (3, .int z.2.2)]) (v := (1 : Int32)) X dX7_weighingsFor_21 1 rfl (by decide) [1, 0, 2, 3] (Nat.le_of_ble_eq_true rfl) rfl ?_
      refine g_iinc (lv' := [(0, .int x0), (1, .int (z.1 + (1 : Int32))), (2, .int (z.2.1 * (3 : Int32))), (3, .int (z.2.2 + (1 : Int32)))]) (v := (1 : Int32)) X dX7_weighingsFor_24 3 rfl (by decide) [1, 2, 3, 0] (Nat.le_of_ble_eq_true rfl) rfl ?_
      refine g_goto X 6 dX7_weighingsFor_27 (by decide) ?_
      exact K1 ((z.1 + (1 : Int32)), (z.2.1 * (3 : Int32)), (z.2.2 + (1 : Int32))) (Option.some.inj hf).symm
set_option maxRecDepth 100000 in
set_option maxHeartbeats 4000000 in
theorem w_X7_weighingsFor_B6 {p : Program} {l : Launch} {e : Env} {s : State} {m : MethodId} {args : Array Value} {below : List Frame} {meth : Method} {c : Code} {A : Nat → Prop} {D : va_G} {cy : Nat → ClassId} {ad : (Nat → Nat) × (Nat → Nat)} {Q : State → Prop} (X : gK p s m args meth c A D cy ad cX7_weighingsFor 4 RX7) (hr : meth.sig.returnType = (some .int)) (x0 : Int32) {n : Nat} {z : Int32 × Int32 × Int32} {q : (Int32)} (hf : itl (f_X7_weighingsFor_B6 x0) n z = some q) (K2 : GW p l e rmX7_weighingsFor s m args below meth c A D 4 0 0 Q 30 [(1, .int q)] [] []) : GW p l e rmX7_weighingsFor s m args below meth c A D 4 0 0 Q 6 [(0, .int x0), (1, .int z.1), (2, .int z.2.1), (3, .int z.2.2)] [] [] :=
  itl_ind (f := f_X7_weighingsFor_B6 x0) (I := fun z => GW p l e rmX7_weighingsFor s m args below meth c A D 4 0 0 Q 6 [(0, .int x0), (1, .int z.1), (2, .int z.2.1), (3, .int z.2.2)] [] []) (J := (fun q => GW p l e rmX7_weighingsFor s m args below meth c A D 4 0 0 Q 30 [(1, .int q)] [] [])) (fun z x h k1 k2 => b_X7_weighingsFor_B6 X hr x0 z h (fun s' hs => k1 s' hs) (fun e' he => k2 e' he)) n z q hf K2
def f_X7_weighingsFor (p0 : Int32) : Option (Int32) :=
  (itl (f_X7_weighingsFor_B6 p0) FU ((0 : Int32), (1 : Int32), (0 : Int32))).bind (fun q636 => some q636)
set_option maxRecDepth 100000 in
set_option maxHeartbeats 4000000 in
theorem c_X7_weighingsFor (l : Launch) (D : va_G) (cy : Nat → ClassId) (ad : (Nat → Nat) × (Nat → Nat)) (p0 : Int32) {q : Int32} (hf : f_X7_weighingsFor p0 = some q) : CM l yX7_weighingsFor cX7_weighingsFor 4 (some .int) rmX7_weighingsFor D cy ad [.int p0] [] (some (.int q)) [] := by
  refine cm_of (lv0 := [(0, .int p0)]) (by decide) (Nat.le_of_ble_eq_true rfl) rfl ?_
  intro p e s m args below meth c A X hr hn
  have X : gK p s m args meth c A D cy ad cX7_weighingsFor 4 RX7 := X
  unfold f_X7_weighingsFor at hf
  refine g_iconst X (0 : Int32) dX7_weighingsFor_0 (by decide) ?_
  refine g_istore_n (lv' := [(0, .int p0), (1, .int (0 : Int32))]) X dX7_weighingsFor_1 [1, 0] rfl (Nat.le_of_ble_eq_true rfl) rfl ?_
  refine g_iconst X (1 : Int32) dX7_weighingsFor_2 (by decide) ?_
  refine g_istore_n (lv' := [(0, .int p0), (1, .int (0 : Int32)), (2, .int (1 : Int32))]) X dX7_weighingsFor_3 [1, 2, 0] rfl (Nat.le_of_ble_eq_true rfl) rfl ?_
  refine g_iconst X (0 : Int32) dX7_weighingsFor_4 (by decide) ?_
  refine g_istore_n (lv' := [(0, .int p0), (1, .int (0 : Int32)), (2, .int (1 : Int32)), (3, .int (0 : Int32))]) X dX7_weighingsFor_5 [1, 2, 3, 0] rfl (Nat.le_of_ble_eq_true rfl) rfl ?_
  obtain ⟨q636, hq636, hf⟩ := obind hf
  refine w_X7_weighingsFor_B6 X hr p0 hq636 ?_
  refine g_iload_n X dX7_weighingsFor_30 0 rfl rfl ?_
  have hf := Option.some.inj hf
  subst hf
  exact g_iret X hr dX7_weighingsFor_31
abbrev rmX7_withoutGroups : Room := ({ frames := 0, cells := 0, slots := 0, locals := 0 } : Room)
def f_X7_withoutGroups_B5 (x2 : Int32) (z : Int64 × Int32) : Option ((Int64 × Int32) ⊕ ((Int64))) :=
  if x2 ≤ z.2 then some (.inr ((z.1))) else some (.inl ((z.1 / (100000 : Int64)), (z.2 + (1 : Int32))))
set_option maxRecDepth 100000 in
set_option maxHeartbeats 4000000 in
theorem b_X7_withoutGroups_B5 {p : Program} {l : Launch} {e : Env} {s : State} {m : MethodId} {args : Array Value} {below : List Frame} {meth : Method} {c : Code} {A : Nat → Prop} {D : va_G} {cy : Nat → ClassId} {ad : (Nat → Nat) × (Nat → Nat)} {Q : State → Prop} (X : gK p s m args meth c A D cy ad cX7_withoutGroups 6 RX7) (hr : meth.sig.returnType = (some .long)) (x2 : Int32) (z : Int64 × Int32) {q : (Int64 × Int32) ⊕ ((Int64))} (hf : f_X7_withoutGroups_B5 x2 z = some q) (K1 : ∀ s' : Int64 × Int32, q = .inl s' → GW p l e rmX7_withoutGroups s m args below meth c A D 6 0 0 Q 5 [(2, .int x2), (3, .long s'.1), (5, .int s'.2)] [] []) (K2 : ∀ e' : Int64, q = .inr (e') → GW p l e rmX7_withoutGroups s m args below meth c A D 6 0 0 Q 23 [(3, .long e')] [] []) : GW p l e rmX7_withoutGroups s m args below meth c A D 6 0 0 Q 5 [(2, .int x2), (3, .long z.1), (5, .int z.2)] [] [] := by
  unfold f_X7_withoutGroups_B5 at hf
  refine g_iload X dX7_withoutGroups_5 2 rfl ?_
  refine g_iload_n X dX7_withoutGroups_7 0 rfl rfl ?_
  refine g_icmp_ge X 23 dX7_withoutGroups_8 (by decide) (fun c661 => ?_) (fun c661 => ?_)
  · have hf := opos c661 hf
    refine g_sub [1] (lv' := [(3, .long z.1)]) rfl ?_
    exact K2 (z.1) (Option.some.inj hf).symm
  · have hf := oneg c661 hf
    refine g_lload_n X dX7_withoutGroups_11 1 rfl rfl ?_
    refine g_ldc2 X lkl_X7_293 dX7_withoutGroups_12 ?_
    refine g_ldiv X dX7_withoutGroups_15 (by decide) ?_
    refine g_lstore_n (lv' := [(2, .int x2), (3, .long (z.1 / (100000 : Int64))), (5, .int z.2)]) X dX7_withoutGroups_16 [1, 0, 2] rfl (Nat.le_of_ble_eq_true rfl) rfl ?_
    refine g_iinc (lv' := [(2, .int x2), (3, .long (z.1 / (100000 : Int64))), (5, .int (z.2 + (1 : Int32)))]) (v := (1 : Int32)) X dX7_withoutGroups_17 2 rfl (by decide) [1, 2, 0] (Nat.le_of_ble_eq_true rfl) rfl ?_
    refine g_goto X 5 dX7_withoutGroups_20 (by decide) ?_
    exact K1 ((z.1 / (100000 : Int64)), (z.2 + (1 : Int32))) (Option.some.inj hf).symm
set_option maxRecDepth 100000 in
set_option maxHeartbeats 4000000 in
theorem w_X7_withoutGroups_B5 {p : Program} {l : Launch} {e : Env} {s : State} {m : MethodId} {args : Array Value} {below : List Frame} {meth : Method} {c : Code} {A : Nat → Prop} {D : va_G} {cy : Nat → ClassId} {ad : (Nat → Nat) × (Nat → Nat)} {Q : State → Prop} (X : gK p s m args meth c A D cy ad cX7_withoutGroups 6 RX7) (hr : meth.sig.returnType = (some .long)) (x2 : Int32) {n : Nat} {z : Int64 × Int32} {q : (Int64)} (hf : itl (f_X7_withoutGroups_B5 x2) n z = some q) (K2 : GW p l e rmX7_withoutGroups s m args below meth c A D 6 0 0 Q 23 [(3, .long q)] [] []) : GW p l e rmX7_withoutGroups s m args below meth c A D 6 0 0 Q 5 [(2, .int x2), (3, .long z.1), (5, .int z.2)] [] [] :=
  itl_ind (f := f_X7_withoutGroups_B5 x2) (I := fun z => GW p l e rmX7_withoutGroups s m args below meth c A D 6 0 0 Q 5 [(2, .int x2), (3, .long z.1), (5, .int z.2)] [] []) (J := (fun q => GW p l e rmX7_withoutGroups s m args below meth c A D 6 0 0 Q 23 [(3, .long q)] [] [])) (fun z x h k1 k2 => b_X7_withoutGroups_B5 X hr x2 z h (fun s' hs => k1 s' hs) (fun e' he => k2 e' he)) n z q hf K2
def f_X7_withoutGroups (p0 : Int64) (p1 : Int32) : Option (Int64) :=
  (itl (f_X7_withoutGroups_B5 p1) FU (p0, (0 : Int32))).bind (fun q662 => some q662)
set_option maxRecDepth 100000 in
set_option maxHeartbeats 4000000 in
theorem c_X7_withoutGroups (l : Launch) (D : va_G) (cy : Nat → ClassId) (ad : (Nat → Nat) × (Nat → Nat)) (p0 : Int64) (p1 : Int32) {q : Int64} (hf : f_X7_withoutGroups p0 p1 = some q) : CM l yX7_withoutGroups cX7_withoutGroups 6 (some .long) rmX7_withoutGroups D cy ad [.long p0, .int p1] [] (some (.long q)) [] := by
  refine cm_of (lv0 := [(0, .long p0), (2, .int p1)]) (by decide) (Nat.le_of_ble_eq_true rfl) rfl ?_
  intro p e s m args below meth c A X hr hn
  have X : gK p s m args meth c A D cy ad cX7_withoutGroups 6 RX7 := X
  unfold f_X7_withoutGroups at hf
  refine g_lload_n X dX7_withoutGroups_0 0 rfl rfl ?_
  refine g_lstore_n (lv' := [(0, .long p0), (2, .int p1), (3, .long p0)]) X dX7_withoutGroups_1 [1, 2, 0] rfl (Nat.le_of_ble_eq_true rfl) rfl ?_
  refine g_iconst X (0 : Int32) dX7_withoutGroups_2 (by decide) ?_
  refine g_istore (lv' := [(0, .long p0), (2, .int p1), (3, .long p0), (5, .int (0 : Int32))]) X dX7_withoutGroups_3 [1, 2, 3, 0] (Nat.le_of_ble_eq_true rfl) rfl ?_
  obtain ⟨q662, hq662, hf⟩ := obind hf
  refine g_sub [1, 2, 3] (lv' := [(2, .int p1), (3, .long p0), (5, .int (0 : Int32))]) rfl ?_
  refine w_X7_withoutGroups_B5 X hr p1 hq662 ?_
  refine g_lload_n X dX7_withoutGroups_23 0 rfl rfl ?_
  have hf := Option.some.inj hf
  subst hf
  exact g_lret X hr dX7_withoutGroups_24
