abbrev rmL_holds : Room := ({ frames := 11, cells := 413, slots := 2484, locals := 210 } : Room)
def f_L_holds_B126_b169 (v0 : OBv) (w0 : Fn) (x1 : Int32) (x2 : Int32) (x3 : Int32) (x4 : Int32) (x5 : Int32) (x6 : Int32) (x7 : Int32) (x9 : Bool) (x10 : Int32) (x11 : Int32) (x12 : Int32) (y0 : Int32) (y1 : Int32) (y2 : Int32) : Option ((Int32 × Fn) ⊕ ((Fn))) :=
  if y2 < 0 ∨ 12 ≤ y2.toNatClampNeg then none else some (.inl ((x12 + (1 : Int32)), (upd w0 y2.toNatClampNeg (y1 ||| y0))))
set_option maxRecDepth 100000 in
set_option maxHeartbeats 4000000 in
theorem j_L_holds_B126_b169 {p : Program} {l : Launch} {e : Env} {s : State} {m : MethodId} {args : Array Value} {below : List Frame} {meth : Method} {c : Code} {A : Nat → Prop} {D : va_G} {cy : Nat → ClassId} {ad : (Nat → Nat) × (Nat → Nat)} {Q : State → Prop} (X : gK p s m args meth c A D cy ad cL_holds 17 RL) (hr : meth.sig.returnType = (some .boolean)) (hfl : l.stackTraces = false) {cb sb : Nat} (hk1 : ∀ k, k ≤ 2 → cb + k ≤ rmL_holds.cells) (hk2 : ∀ k, k ≤ 12 → sb + k ≤ rmL_holds.slots) {h0 t0 : Nat} {hs : Nat → Nat} {ta : TAd} (v0 : OBv) (w0 : Fn) (x1 : Int32) (x2 : Int32) (x3 : Int32) (x4 : Int32) (x5 : Int32) (x6 : Int32) (x7 : Int32) (x9 : Bool) (x10 : Int32) (x11 : Int32) (x12 : Int32) (y0 : Int32) (y1 : Int32) (y2 : Int32) {q : (Int32 × Fn) ⊕ ((Fn))} (hf : f_L_holds_B126_b169 v0 w0 x1 x2 x3 x4 x5 x6 x7 x9 x10 x11 x12 y0 y1 y2 = some q) (K1 : ∀ s' : Int32 × Fn, q = .inl s' → GW p l e rmL_holds s m args below meth c A D 17 (cb + 2) (sb + 12) Q 126 [(0, .ref h0), (1, .int x1), (2, .int x2), (3, .int x3), (4, .int x4), (5, .int x5), (6, .int x6), (7, .int x7), (8, .ref t0), (9, .int (b2i x9)), (10, .int x10), (11, .int x11), (12, .int s'.1)] [] [OB cy h0 hs ta v0, AI cy 12 t0 s'.2]) (K2 : ∀ e' : Fn, q = .inr (e') → GW p l e rmL_holds s m args below meth c A D 17 (cb + 2) (sb + 12) Q 177 [(0, .ref h0), (1, .int x1), (2, .int x2), (3, .int x3), (4, .int x4), (5, .int x5), (6, .int x6), (7, .int x7), (8, .ref t0), (9, .int (b2i x9)), (10, .int x10)] [] [OB cy h0 hs ta v0, AI cy 12 t0 e']) : GW p l e rmL_holds s m args below meth c A D 17 (cb + 2) (sb + 12) Q 169 [(0, .ref h0), (1, .int x1), (2, .int x2), (3, .int x3), (4, .int x4), (5, .int x5), (6, .int x6), (7, .int x7), (8, .ref t0), (9, .int (b2i x9)), (10, .int x10), (11, .int x11), (12, .int x12)] [.int y0, .int y1, .int y2, .ref t0] [OB cy h0 hs ta v0, AI cy 12 t0 w0] := by
  unfold f_L_holds_B126_b169 at hf
  refine g_ior X dL_holds_169 ?_
  obtain ⟨n1308, hf⟩ := oguard hf
  refine g_iastore (gs' := [OB cy h0 hs ta v0, AI cy 12 t0 (upd w0 y2.toNatClampNeg (y1 ||| y0))]) X dL_holds_170 1 0 rfl rfl n1308 rfl ?_
  refine g_iinc (lv' := [(0, .ref h0), (1, .int x1), (2, .int x2), (3, .int x3), (4, .int x4), (5, .int x5), (6, .int x6), (7, .int x7), (8, .ref t0), (9, .int (b2i x9)), (10, .int x10), (11, .int x11), (12, .int (x12 + (1 : Int32)))]) (v := (1 : Int32)) X dL_holds_171 12 rfl (by decide) [1, 2, 3, 4, 5, 6, 7, 8, 9, 10, 11, 12, 0] (Nat.le_of_ble_eq_true rfl) rfl ?_
  refine g_goto X 126 dL_holds_174 (by decide) ?_
  exact K1 ((x12 + (1 : Int32)), (upd w0 y2.toNatClampNeg (y1 ||| y0))) (Option.some.inj hf).symm
def f_L_holds_B126 (v0 : OBv) (x1 : Int32) (x2 : Int32) (x3 : Int32) (x4 : Int32) (x5 : Int32) (x6 : Int32) (x7 : Int32) (x9 : Bool) (x10 : Int32) (x11 : Int32) (z : Int32 × Fn) : Option ((Int32 × Fn) ⊕ ((Fn))) :=
  if x2 ≤ z.1 then some (.inr ((z.2))) else if z.1 < 0 ∨ 12 ≤ z.1.toNatClampNeg then none else if x11 = 0 then f_L_holds_B126_b169 v0 z.2 x1 x2 x3 x4 x5 x6 x7 x9 x10 x11 z.1 (0 : Int32) (z.2 z.1.toNatClampNeg) z.1 else if (x10 / (6 : Int32)) = z.1 then f_L_holds_B126_b169 v0 z.2 x1 x2 x3 x4 x5 x6 x7 x9 x10 x11 z.1 ((1 : Int32) <<< (((x10 / (3 : Int32)) - (x10 / (3 : Int32)) / (2 : Int32) * (2 : Int32)) &&& 31)) (z.2 z.1.toNatClampNeg) z.1 else f_L_holds_B126_b169 v0 z.2 x1 x2 x3 x4 x5 x6 x7 x9 x10 x11 z.1 (4 : Int32) (z.2 z.1.toNatClampNeg) z.1
set_option maxRecDepth 100000 in
set_option maxHeartbeats 4000000 in
theorem b_L_holds_B126 {p : Program} {l : Launch} {e : Env} {s : State} {m : MethodId} {args : Array Value} {below : List Frame} {meth : Method} {c : Code} {A : Nat → Prop} {D : va_G} {cy : Nat → ClassId} {ad : (Nat → Nat) × (Nat → Nat)} {Q : State → Prop} (X : gK p s m args meth c A D cy ad cL_holds 17 RL) (hr : meth.sig.returnType = (some .boolean)) (hfl : l.stackTraces = false) {cb sb : Nat} (hk1 : ∀ k, k ≤ 2 → cb + k ≤ rmL_holds.cells) (hk2 : ∀ k, k ≤ 12 → sb + k ≤ rmL_holds.slots) {h0 t0 : Nat} {hs : Nat → Nat} {ta : TAd} (v0 : OBv) (x1 : Int32) (x2 : Int32) (x3 : Int32) (x4 : Int32) (x5 : Int32) (x6 : Int32) (x7 : Int32) (x9 : Bool) (x10 : Int32) (x11 : Int32) (z : Int32 × Fn) {q : (Int32 × Fn) ⊕ ((Fn))} (hf : f_L_holds_B126 v0 x1 x2 x3 x4 x5 x6 x7 x9 x10 x11 z = some q) (K1 : ∀ s' : Int32 × Fn, q = .inl s' → GW p l e rmL_holds s m args below meth c A D 17 (cb + 2) (sb + 12) Q 126 [(0, .ref h0), (1, .int x1), (2, .int x2), (3, .int x3), (4, .int x4), (5, .int x5), (6, .int x6), (7, .int x7), (8, .ref t0), (9, .int (b2i x9)), (10, .int x10), (11, .int x11), (12, .int s'.1)] [] [OB cy h0 hs ta v0, AI cy 12 t0 s'.2]) (K2 : ∀ e' : Fn, q = .inr (e') → GW p l e rmL_holds s m args below meth c A D 17 (cb + 2) (sb + 12) Q 177 [(0, .ref h0), (1, .int x1), (2, .int x2), (3, .int x3), (4, .int x4), (5, .int x5), (6, .int x6), (7, .int x7), (8, .ref t0), (9, .int (b2i x9)), (10, .int x10)] [] [OB cy h0 hs ta v0, AI cy 12 t0 e']) : GW p l e rmL_holds s m args below meth c A D 17 (cb + 2) (sb + 12) Q 126 [(0, .ref h0), (1, .int x1), (2, .int x2), (3, .int x3), (4, .int x4), (5, .int x5), (6, .int x6), (7, .int x7), (8, .ref t0), (9, .int (b2i x9)), (10, .int x10), (11, .int x11), (12, .int z.1)] [] [OB cy h0 hs ta v0, AI cy 12 t0 z.2] := by
  unfold f_L_holds_B126 at hf
  refine g_iload X dL_holds_126 12 rfl ?_
  refine g_iload_n X dL_holds_128 2 rfl rfl ?_
  refine g_icmp_ge X 177 dL_holds_129 (by decide) (fun c1311 => ?_) (fun c1311 => ?_)
  · have hf := opos c1311 hf
    refine g_sub [0, 1, 2, 3, 4, 5, 6, 7, 8, 9, 10] (lv' := [(0, .ref h0), (1, .int x1), (2, .int x2), (3, .int x3), (4, .int x4), (5, .int x5), (6, .int x6), (7, .int x7), (8, .ref t0), (9, .int (b2i x9)), (10, .int x10)]) rfl ?_
    exact K2 (z.2) (Option.some.inj hf).symm
  · have hf := oneg c1311 hf
    refine g_aload X dL_holds_132 8 rfl ?_
    refine g_iload X dL_holds_134 12 rfl ?_
    refine g_dup2 X dL_holds_136 rfl rfl ?_
    obtain ⟨n1307, hf⟩ := oguard hf
    refine g_iaload X dL_holds_137 1 0 rfl rfl n1307 ?_
    refine g_iload X dL_holds_138 11 rfl ?_
    refine g_if_ne X 147 dL_holds_140 (by decide) (fun c1310 => ?_) (fun c1310 => ?_)
    · have hf := oneg c1310 hf
      refine g_iload X dL_holds_147 10 rfl ?_
      refine g_bipush X (6 : Int32) dL_holds_149 (by decide) ?_
      refine g_idiv X dL_holds_151 (by decide) ?_
      refine g_iload X dL_holds_152 12 rfl ?_
      refine g_icmp_ne X 168 dL_holds_154 (by decide) (fun c1309 => ?_) (fun c1309 => ?_)
      · have hf := oneg c1309 hf
        refine g_iconst X (4 : Int32) dL_holds_168 (by decide) ?_
        exact j_L_holds_B126_b169 X hr hfl hk1 hk2 v0 z.2 x1 x2 x3 x4 x5 x6 x7 x9 x10 x11 z.1 (4 : Int32) (z.2 z.1.toNatClampNeg) z.1 hf K1 K2
      · have hf := opos c1309 hf
        refine g_iconst X (1 : Int32) dL_holds_157 (by decide) ?_
        refine g_iload X dL_holds_158 10 rfl ?_
        refine g_iconst X (3 : Int32) dL_holds_160 (by decide) ?_
        refine g_idiv X dL_holds_161 (by decide) ?_
        refine g_iconst X (2 : Int32) dL_holds_162 (by decide) ?_
        refine g_irem X dL_holds_163 (by decide) ?_
        refine g_ishl X dL_holds_164 ?_
        refine g_goto X 169 dL_holds_165 (by decide) ?_
        exact j_L_holds_B126_b169 X hr hfl hk1 hk2 v0 z.2 x1 x2 x3 x4 x5 x6 x7 x9 x10 x11 z.1 ((1 : Int32) <<< (((x10 / (3 : Int32)) - (x10 / (3 : Int32)) / (2 : Int32) * (2 : Int32)) &&& 31)) (z.2 z.1.toNatClampNeg) z.1 hf K1 K2
    · have hf := opos c1310 hf
      refine g_iconst X (0 : Int32) dL_holds_143 (by decide) ?_
      refine g_goto X 169 dL_holds_144 (by decide) ?_
      exact j_L_holds_B126_b169 X hr hfl hk1 hk2 v0 z.2 x1 x2 x3 x4 x5 x6 x7 x9 x10 x11 z.1 (0 : Int32) (z.2 z.1.toNatClampNeg) z.1 hf K1 K2
set_option maxRecDepth 100000 in
set_option maxHeartbeats 4000000 in
theorem w_L_holds_B126 {p : Program} {l : Launch} {e : Env} {s : State} {m : MethodId} {args : Array Value} {below : List Frame} {meth : Method} {c : Code} {A : Nat → Prop} {D : va_G} {cy : Nat → ClassId} {ad : (Nat → Nat) × (Nat → Nat)} {Q : State → Prop} (X : gK p s m args meth c A D cy ad cL_holds 17 RL) (hr : meth.sig.returnType = (some .boolean)) (hfl : l.stackTraces = false) {cb sb : Nat} (hk1 : ∀ k, k ≤ 2 → cb + k ≤ rmL_holds.cells) (hk2 : ∀ k, k ≤ 12 → sb + k ≤ rmL_holds.slots) {h0 t0 : Nat} {hs : Nat → Nat} {ta : TAd} (v0 : OBv) (x1 : Int32) (x2 : Int32) (x3 : Int32) (x4 : Int32) (x5 : Int32) (x6 : Int32) (x7 : Int32) (x9 : Bool) (x10 : Int32) (x11 : Int32) {n : Nat} {z : Int32 × Fn} {q : (Fn)} (hf : itl (f_L_holds_B126 v0 x1 x2 x3 x4 x5 x6 x7 x9 x10 x11) n z = some q) (K2 : GW p l e rmL_holds s m args below meth c A D 17 (cb + 2) (sb + 12) Q 177 [(0, .ref h0), (1, .int x1), (2, .int x2), (3, .int x3), (4, .int x4), (5, .int x5), (6, .int x6), (7, .int x7), (8, .ref t0), (9, .int (b2i x9)), (10, .int x10)] [] [OB cy h0 hs ta v0, AI cy 12 t0 q]) : GW p l e rmL_holds s m args below meth c A D 17 (cb + 2) (sb + 12) Q 126 [(0, .ref h0), (1, .int x1), (2, .int x2), (3, .int x3), (4, .int x4), (5, .int x5), (6, .int x6), (7, .int x7), (8, .ref t0), (9, .int (b2i x9)), (10, .int x10), (11, .int x11), (12, .int z.1)] [] [OB cy h0 hs ta v0, AI cy 12 t0 z.2] :=
  itl_ind (f := f_L_holds_B126 v0 x1 x2 x3 x4 x5 x6 x7 x9 x10 x11) (I := fun z => GW p l e rmL_holds s m args below meth c A D 17 (cb + 2) (sb + 12) Q 126 [(0, .ref h0), (1, .int x1), (2, .int x2), (3, .int x3), (4, .int x4), (5, .int x5), (6, .int x6), (7, .int x7), (8, .ref t0), (9, .int (b2i x9)), (10, .int x10), (11, .int x11), (12, .int z.1)] [] [OB cy h0 hs ta v0, AI cy 12 t0 z.2]) (J := (fun q => GW p l e rmL_holds s m args below meth c A D 17 (cb + 2) (sb + 12) Q 177 [(0, .ref h0), (1, .int x1), (2, .int x2), (3, .int x3), (4, .int x4), (5, .int x5), (6, .int x6), (7, .int x7), (8, .ref t0), (9, .int (b2i x9)), (10, .int x10)] [] [OB cy h0 hs ta v0, AI cy 12 t0 q])) (fun z x h k1 k2 => b_L_holds_B126 X hr hfl hk1 hk2 v0 x1 x2 x3 x4 x5 x6 x7 x9 x10 x11 z h (fun s' hs => k1 s' hs) (fun e' he => k2 e' he)) n z q hf K2
def f_L_holds_B82 (x1 : Int32) (x2 : Int32) (x3 : Int32) (x4 : Int32) (x5 : Int32) (x9 : Bool) (z : Int32 × Int32 × Int32 × OBv × Fn) : Option ((Int32 × Int32 × Int32 × OBv × Fn) ⊕ ((Int32 × Int32 × OBv × Fn))) :=
  if x3 ≤ z.2.2.1 then some (.inr ((z.1, z.2.1, z.2.2.2.1, z.2.2.2.2))) else if (b2i x9) = 0 then some (.inr ((z.1, z.2.1, z.2.2.2.1, z.2.2.2.2))) else (f_O_call z.2.2.2.1 (4 : Int32) z.2.2.1 (0 : Int32) (0 : Int32)).bind (fun q1306 => (itl (f_L_holds_B126 q1306.2 x1 x2 x3 x4 x5 (z.1 + q1306.1) (z.2.1 ||| (q1306.1 <<< ((z.2.2.1 - z.2.2.1 / (3 : Int32) * (3 : Int32)) &&& 31))) x9 z.2.2.1 q1306.1) FU ((0 : Int32), z.2.2.2.2)).bind (fun q1312 => some (.inl ((z.1 + q1306.1), (z.2.1 ||| (q1306.1 <<< ((z.2.2.1 - z.2.2.1 / (3 : Int32) * (3 : Int32)) &&& 31))), (z.2.2.1 + (1 : Int32)), q1306.2, q1312))))
set_option maxRecDepth 100000 in
set_option maxHeartbeats 4000000 in
theorem b_L_holds_B82 {p : Program} {l : Launch} {e : Env} {s : State} {m : MethodId} {args : Array Value} {below : List Frame} {meth : Method} {c : Code} {A : Nat → Prop} {D : va_G} {cy : Nat → ClassId} {ad : (Nat → Nat) × (Nat → Nat)} {Q : State → Prop} (X : gK p s m args meth c A D cy ad cL_holds 17 RL) (hr : meth.sig.returnType = (some .boolean)) (hfl : l.stackTraces = false) {cb sb : Nat} (hk1 : ∀ k, k ≤ 2 → cb + k ≤ rmL_holds.cells) (hk2 : ∀ k, k ≤ 12 → sb + k ≤ rmL_holds.slots) {h0 t0 : Nat} {hs : Nat → Nat} {ta : TAd} (x1 : Int32) (x2 : Int32) (x3 : Int32) (x4 : Int32) (x5 : Int32) (x9 : Bool) (z : Int32 × Int32 × Int32 × OBv × Fn) {q : (Int32 × Int32 × Int32 × OBv × Fn) ⊕ ((Int32 × Int32 × OBv × Fn))} (hf : f_L_holds_B82 x1 x2 x3 x4 x5 x9 z = some q) (K1 : ∀ s' : Int32 × Int32 × Int32 × OBv × Fn, q = .inl s' → GW p l e rmL_holds s m args below meth c A D 17 (cb + 2) (sb + 12) Q 82 [(0, .ref h0), (1, .int x1), (2, .int x2), (3, .int x3), (4, .int x4), (5, .int x5), (6, .int s'.1), (7, .int s'.2.1), (8, .ref t0), (9, .int (b2i x9)), (10, .int s'.2.2.1)] [] [OB cy h0 hs ta s'.2.2.2.1, AI cy 12 t0 s'.2.2.2.2]) (K2 : ∀ e' : Int32 × Int32 × OBv × Fn, q = .inr (e') → GW p l e rmL_holds s m args below meth c A D 17 (cb + 2) (sb + 12) Q 183 [(0, .ref h0), (1, .int x1), (2, .int x2), (3, .int x3), (4, .int x4), (5, .int x5), (6, .int e'.1), (7, .int e'.2.1), (8, .ref t0), (9, .int (b2i x9))] [] [OB cy h0 hs ta e'.2.2.1, AI cy 12 t0 e'.2.2.2]) : GW p l e rmL_holds s m args below meth c A D 17 cb sb Q 82 [(0, .ref h0), (1, .int x1), (2, .int x2), (3, .int x3), (4, .int x4), (5, .int x5), (6, .int z.1), (7, .int z.2.1), (8, .ref t0), (9, .int (b2i x9)), (10, .int z.2.2.1)] [] [OB cy h0 hs ta z.2.2.2.1, AI cy 12 t0 z.2.2.2.2] := by
  unfold f_L_holds_B82 at hf
  refine g_iload X dL_holds_82 10 rfl ?_
  refine g_iload_n X dL_holds_84 3 rfl rfl ?_
  refine g_icmp_ge X 183 dL_holds_85 (by decide) (fun c1314 => ?_) (fun c1314 => ?_)
  · have hf := opos c1314 hf
    refine g_widen (k := (cb + 2)) (n := (sb + 12)) (by omega) (by omega) ?_
    refine g_sub [0, 1, 2, 3, 4, 5, 6, 7, 8, 9] (lv' := [(0, .ref h0), (1, .int x1), (2, .int x2), (3, .int x3), (4, .int x4), (5, .int x5), (6, .int z.1), (7, .int z.2.1), (8, .ref t0), (9, .int (b2i x9))]) rfl ?_
    exact K2 (z.1, z.2.1, z.2.2.2.1, z.2.2.2.2) (Option.some.inj hf).symm
  · have hf := oneg c1314 hf
    refine g_iload X dL_holds_88 9 rfl ?_
    refine g_if_eq X 183 dL_holds_90 (by decide) (fun c1313 => ?_) (fun c1313 => ?_)
    · have hf := opos c1313 hf
      refine g_widen (k := (cb + 2)) (n := (sb + 12)) (by omega) (by omega) ?_
      refine g_sub [0, 1, 2, 3, 4, 5, 6, 7, 8, 9] (lv' := [(0, .ref h0), (1, .int x1), (2, .int x2), (3, .int x3), (4, .int x4), (5, .int x5), (6, .int z.1), (7, .int z.2.1), (8, .ref t0), (9, .int (b2i x9))]) rfl ?_
      exact K2 (z.1, z.2.1, z.2.2.2.1, z.2.2.2.2) (Option.some.inj hf).symm
    · have hf := oneg c1313 hf
      refine g_aload_n X dL_holds_93 0 rfl rfl ?_
      refine g_iconst X (4 : Int32) dL_holds_94 (by decide) ?_
      refine g_iload X dL_holds_95 10 rfl ?_
      refine g_iconst X (0 : Int32) dL_holds_97 (by decide) ?_
      refine g_iconst X (0 : Int32) dL_holds_98 (by decide) ?_
      obtain ⟨q1306, hq1306, hf⟩ := obind hf
      refine g_callS (gs' := [OB cy h0 hs ta q1306.2, AI cy 12 t0 z.2.2.2.2]) (rest := []) X dL_holds_99 (o_L_call l D cy ad h0 hs ta z.2.2.2.1 (4 : Int32) z.2.2.1 (0 : Int32) (0 : Int32) hfl hq1306) mf_L_call ms_L_call lkm_L_144 ⟨(Nat.le_of_ble_eq_true rfl), (Nat.le_of_ble_eq_true rfl), hk1 2 (by decide), hk2 12 (by decide)⟩ [0, 1] _ (by decide : [0, 1].Perm (List.range 2)) rfl (by decide : [0, 1].Perm (List.range 2)) rfl (Nat.le_of_ble_eq_true rfl) rfl ?_
      refine g_cs (c' := (cb + 2)) (s' := (sb + 12)) rfl rfl ?_
      refine g_istore (lv' := [(0, .ref h0), (1, .int x1), (2, .int x2), (3, .int x3), (4, .int x4), (5, .int x5), (6, .int z.1), (7, .int z.2.1), (8, .ref t0), (9, .int (b2i x9)), (10, .int z.2.2.1), (11, .int q1306.1)]) X dL_holds_102 [1, 2, 3, 4, 5, 6, 7, 8, 9, 10, 11, 0] (Nat.le_of_ble_eq_true rfl) rfl ?_
      refine g_iload X dL_holds_104 6 rfl ?_
      refine g_iload X dL_holds_106 11 rfl ?_
      refine g_iadd X dL_holds_108 ?_
      refine g_istore (lv' := [(0, .ref h0), (1, .int x1), (2, .int x2), (3, .int x3), (4, .int x4), (5, .int x5), (6, .int (z.1 + q1306.1)), (7, .int z.2.1), (8, .ref t0), (9, .int (b2i x9)), (10, .int z.2.2.1), (11, .int q1306.1)]) X dL_holds_109 [1, 2, 3, 4, 5, 6, 0, 7, 8, 9, 10, 11] (Nat.le_of_ble_eq_true rfl) rfl ?_
      refine g_iload X dL_holds_111 7 rfl ?_
      refine g_iload X dL_holds_113 11 rfl ?_
      refine g_iload X dL_holds_115 10 rfl ?_
      refine g_iconst X (3 : Int32) dL_holds_117 (by decide) ?_
      refine g_irem X dL_holds_118 (by decide) ?_
      refine g_ishl X dL_holds_119 ?_
      refine g_ior X dL_holds_120 ?_
      refine g_istore (lv' := [(0, .ref h0), (1, .int x1), (2, .int x2), (3, .int x3), (4, .int x4), (5, .int x5), (6, .int (z.1 + q1306.1)), (7, .int (z.2.1 ||| (q1306.1 <<< ((z.2.2.1 - z.2.2.1 / (3 : Int32) * (3 : Int32)) &&& 31)))), (8, .ref t0), (9, .int (b2i x9)), (10, .int z.2.2.1), (11, .int q1306.1)]) X dL_holds_121 [1, 2, 3, 4, 5, 6, 7, 0, 8, 9, 10, 11] (Nat.le_of_ble_eq_true rfl) rfl ?_
      refine g_iconst X (0 : Int32) dL_holds_123 (by decide) ?_
      refine g_istore (lv' := [(0, .ref h0), (1, .int x1), (2, .int x2), (3, .int x3), (4, .int x4), (5, .int x5), (6, .int (z.1 + q1306.1)), (7, .int (z.2.1 ||| (q1306.1 <<< ((z.2.2.1 - z.2.2.1 / (3 : Int32) * (3 : Int32)) &&& 31)))), (8, .ref t0), (9, .int (b2i x9)), (10, .int z.2.2.1), (11, .int q1306.1), (12, .int (0 : Int32))]) X dL_holds_124 [1, 2, 3, 4, 5, 6, 7, 8, 9, 10, 11, 12, 0] (Nat.le_of_ble_eq_true rfl) rfl ?_
      obtain ⟨q1312, hq1312, hf⟩ := obind hf
      refine w_L_holds_B126 X hr hfl hk1 hk2 q1306.2 x1 x2 x3 x4 x5 (z.1 + q1306.1) (z.2.1 ||| (q1306.1 <<< ((z.2.2.1 - z.2.2.1 / (3 : Int32) * (3 : Int32)) &&& 31))) x9 z.2.2.1 q1306.1 hq1312 ?_
      refine g_iinc (lv' := [(0, .ref h0), (1, .int x1), (2, .int x2), (3, .int x3), (4, .int x4), (5, .int x5), (6, .int (z.1 + q1306.1)), (7, .int (z.2.1 ||| (q1306.1 <<< ((z.2.2.1 - z.2.2.1 / (3 : Int32) * (3 : Int32)) &&& 31)))), (8, .ref t0), (9, .int (b2i x9)), (10, .int (z.2.2.1 + (1 : Int32)))]) (v := (1 : Int32)) X dL_holds_177 10 rfl (by decide) [1, 2, 3, 4, 5, 6, 7, 8, 9, 10, 0] (Nat.le_of_ble_eq_true rfl) rfl ?_
      refine g_goto X 82 dL_holds_180 (by decide) ?_
      exact K1 ((z.1 + q1306.1), (z.2.1 ||| (q1306.1 <<< ((z.2.2.1 - z.2.2.1 / (3 : Int32) * (3 : Int32)) &&& 31))), (z.2.2.1 + (1 : Int32)), q1306.2, q1312) (Option.some.inj hf).symm
set_option maxRecDepth 100000 in
set_option maxHeartbeats 4000000 in
theorem w_L_holds_B82 {p : Program} {l : Launch} {e : Env} {s : State} {m : MethodId} {args : Array Value} {below : List Frame} {meth : Method} {c : Code} {A : Nat → Prop} {D : va_G} {cy : Nat → ClassId} {ad : (Nat → Nat) × (Nat → Nat)} {Q : State → Prop} (X : gK p s m args meth c A D cy ad cL_holds 17 RL) (hr : meth.sig.returnType = (some .boolean)) (hfl : l.stackTraces = false) {h0 t0 : Nat} {hs : Nat → Nat} {ta : TAd} (x1 : Int32) (x2 : Int32) (x3 : Int32) (x4 : Int32) (x5 : Int32) (x9 : Bool) : ∀ {n : Nat} {cb sb : Nat} {z : Int32 × Int32 × Int32 × OBv × Fn} {q : (Int32 × Int32 × OBv × Fn)} (hf : itl (f_L_holds_B82 x1 x2 x3 x4 x5 x9) n z = some q) (h1 : cb + n * 2 ≤ rmL_holds.cells) (h2 : sb + n * 12 ≤ rmL_holds.slots) (K : GW p l e rmL_holds s m args below meth c A D 17 (cb + n * 2) (sb + n * 12) Q 183 [(0, .ref h0), (1, .int x1), (2, .int x2), (3, .int x3), (4, .int x4), (5, .int x5), (6, .int q.1), (7, .int q.2.1), (8, .ref t0), (9, .int (b2i x9))] [] [OB cy h0 hs ta q.2.2.1, AI cy 12 t0 q.2.2.2]), GW p l e rmL_holds s m args below meth c A D 17 cb sb Q 82 [(0, .ref h0), (1, .int x1), (2, .int x2), (3, .int x3), (4, .int x4), (5, .int x5), (6, .int z.1), (7, .int z.2.1), (8, .ref t0), (9, .int (b2i x9)), (10, .int z.2.2.1)] [] [OB cy h0 hs ta z.2.2.2.1, AI cy 12 t0 z.2.2.2.2] := by
  intro n
  induction n with
  | zero => intro cb sb z q hf; exact nomatch hf
  | succ n ih =>
    intro cb sb z q hf h1 h2 K
    have e1 : cb + 2 + n * 2 = cb + (n + 1) * 2 := by rw [Nat.succ_mul]; omega
    have e2 : sb + 12 + n * 12 = sb + (n + 1) * 12 := by rw [Nat.succ_mul]; omega
    cases hq : f_L_holds_B82 x1 x2 x3 x4 x5 x9 z with
    | none => rw [itl, hq] at hf; exact nomatch hf
    | some q9 =>
      rw [itl, hq] at hf
      refine b_L_holds_B82 X hr hfl (fun k hk => by omega) (fun k hk => by omega) x1 x2 x3 x4 x5 x9 z hq (fun s' hs => ?_) (fun e' he => ?_)
      · subst hs
        exact ih hf (by omega) (by omega) (by rw [e1, e2]; exact K)
      · subst he
        cases (Option.some.inj hf)
        exact g_widen (by omega) (by omega) K
def f_L_holds_B186_b219 (v0 : OBv) (w0 : Fn) (x1 : Int32) (x2 : Int32) (x3 : Int32) (x4 : Int32) (x5 : Int32) (x6 : Int32) (x7 : Int32) (x10 : Int32) (y0 : Bool) : Option ((Bool × Int32 × OBv) ⊕ ((Bool × OBv))) :=
  some (.inl (y0, (x10 + (1 : Int32)), v0))
set_option maxRecDepth 100000 in
set_option maxHeartbeats 4000000 in
theorem j_L_holds_B186_b219 {p : Program} {l : Launch} {e : Env} {s : State} {m : MethodId} {args : Array Value} {below : List Frame} {meth : Method} {c : Code} {A : Nat → Prop} {D : va_G} {cy : Nat → ClassId} {ad : (Nat → Nat) × (Nat → Nat)} {Q : State → Prop} (X : gK p s m args meth c A D cy ad cL_holds 17 RL) (hr : meth.sig.returnType = (some .boolean)) (hfl : l.stackTraces = false) {cb sb : Nat} (hk1 : ∀ k, k ≤ 2 → cb + k ≤ rmL_holds.cells) (hk2 : ∀ k, k ≤ 12 → sb + k ≤ rmL_holds.slots) {h0 t0 : Nat} {hs : Nat → Nat} {ta : TAd} (v0 : OBv) (w0 : Fn) (x1 : Int32) (x2 : Int32) (x3 : Int32) (x4 : Int32) (x5 : Int32) (x6 : Int32) (x7 : Int32) (x10 : Int32) (y0 : Bool) {q : (Bool × Int32 × OBv) ⊕ ((Bool × OBv))} (hf : f_L_holds_B186_b219 v0 w0 x1 x2 x3 x4 x5 x6 x7 x10 y0 = some q) (K1 : ∀ s' : Bool × Int32 × OBv, q = .inl s' → GW p l e rmL_holds s m args below meth c A D 17 (cb + 2) (sb + 12) Q 186 [(0, .ref h0), (1, .int x1), (2, .int x2), (3, .int x3), (4, .int x4), (5, .int x5), (6, .int x6), (7, .int x7), (8, .ref t0), (9, .int (b2i s'.1)), (10, .int s'.2.1)] [] [OB cy h0 hs ta s'.2.2, AI cy 12 t0 w0]) (K2 : ∀ e' : Bool × OBv, q = .inr (e') → GW p l e rmL_holds s m args below meth c A D 17 (cb + 2) (sb + 12) Q 227 [(0, .ref h0), (1, .int x1), (2, .int x2), (3, .int x3), (4, .int x4), (5, .int x5), (6, .int x6), (7, .int x7), (9, .int (b2i e'.1))] [] [OB cy h0 hs ta e'.2, AI cy 12 t0 w0]) : GW p l e rmL_holds s m args below meth c A D 17 (cb + 2) (sb + 12) Q 219 [(0, .ref h0), (1, .int x1), (2, .int x2), (3, .int x3), (4, .int x4), (5, .int x5), (6, .int x6), (7, .int x7), (8, .ref t0), (10, .int x10)] [.int (b2i y0)] [OB cy h0 hs ta v0, AI cy 12 t0 w0] := by
  unfold f_L_holds_B186_b219 at hf
  refine g_istore (lv' := [(0, .ref h0), (1, .int x1), (2, .int x2), (3, .int x3), (4, .int x4), (5, .int x5), (6, .int x6), (7, .int x7), (8, .ref t0), (9, .int (b2i y0)), (10, .int x10)]) X dL_holds_219 [1, 2, 3, 4, 5, 6, 7, 8, 9, 0, 10] (Nat.le_of_ble_eq_true rfl) rfl ?_
  refine g_iinc (lv' := [(0, .ref h0), (1, .int x1), (2, .int x2), (3, .int x3), (4, .int x4), (5, .int x5), (6, .int x6), (7, .int x7), (8, .ref t0), (9, .int (b2i y0)), (10, .int (x10 + (1 : Int32)))]) (v := (1 : Int32)) X dL_holds_221 10 rfl (by decide) [1, 2, 3, 4, 5, 6, 7, 8, 9, 10, 0] (Nat.le_of_ble_eq_true rfl) rfl ?_
  refine g_goto X 186 dL_holds_224 (by decide) ?_
  exact K1 (y0, (x10 + (1 : Int32)), v0) (Option.some.inj hf).symm
def f_L_holds_B186 (w0 : Fn) (x1 : Int32) (x2 : Int32) (x3 : Int32) (x4 : Int32) (x5 : Int32) (x6 : Int32) (x7 : Int32) (z : Bool × Int32 × OBv) : Option ((Bool × Int32 × OBv) ⊕ ((Bool × OBv))) :=
  if x2 ≤ z.2.1 then some (.inr ((z.1, z.2.2))) else if (b2i z.1) = 0 then some (.inr ((z.1, z.2.2))) else (f_O_call z.2.2 (3 : Int32) z.2.1 (0 : Int32) (0 : Int32)).bind (fun q1317 => if z.2.1 < 0 ∨ 12 ≤ z.2.1.toNatClampNeg then none else if q1317.1 = (w0 z.2.1.toNatClampNeg) then f_L_holds_B186_b219 q1317.2 w0 x1 x2 x3 x4 x5 x6 x7 z.2.1 true else f_L_holds_B186_b219 q1317.2 w0 x1 x2 x3 x4 x5 x6 x7 z.2.1 false)
set_option maxRecDepth 100000 in
set_option maxHeartbeats 4000000 in
theorem b_L_holds_B186 {p : Program} {l : Launch} {e : Env} {s : State} {m : MethodId} {args : Array Value} {below : List Frame} {meth : Method} {c : Code} {A : Nat → Prop} {D : va_G} {cy : Nat → ClassId} {ad : (Nat → Nat) × (Nat → Nat)} {Q : State → Prop} (X : gK p s m args meth c A D cy ad cL_holds 17 RL) (hr : meth.sig.returnType = (some .boolean)) (hfl : l.stackTraces = false) {cb sb : Nat} (hk1 : ∀ k, k ≤ 2 → cb + k ≤ rmL_holds.cells) (hk2 : ∀ k, k ≤ 12 → sb + k ≤ rmL_holds.slots) {h0 t0 : Nat} {hs : Nat → Nat} {ta : TAd} (w0 : Fn) (x1 : Int32) (x2 : Int32) (x3 : Int32) (x4 : Int32) (x5 : Int32) (x6 : Int32) (x7 : Int32) (z : Bool × Int32 × OBv) {q : (Bool × Int32 × OBv) ⊕ ((Bool × OBv))} (hf : f_L_holds_B186 w0 x1 x2 x3 x4 x5 x6 x7 z = some q) (K1 : ∀ s' : Bool × Int32 × OBv, q = .inl s' → GW p l e rmL_holds s m args below meth c A D 17 (cb + 2) (sb + 12) Q 186 [(0, .ref h0), (1, .int x1), (2, .int x2), (3, .int x3), (4, .int x4), (5, .int x5), (6, .int x6), (7, .int x7), (8, .ref t0), (9, .int (b2i s'.1)), (10, .int s'.2.1)] [] [OB cy h0 hs ta s'.2.2, AI cy 12 t0 w0]) (K2 : ∀ e' : Bool × OBv, q = .inr (e') → GW p l e rmL_holds s m args below meth c A D 17 (cb + 2) (sb + 12) Q 227 [(0, .ref h0), (1, .int x1), (2, .int x2), (3, .int x3), (4, .int x4), (5, .int x5), (6, .int x6), (7, .int x7), (9, .int (b2i e'.1))] [] [OB cy h0 hs ta e'.2, AI cy 12 t0 w0]) : GW p l e rmL_holds s m args below meth c A D 17 cb sb Q 186 [(0, .ref h0), (1, .int x1), (2, .int x2), (3, .int x3), (4, .int x4), (5, .int x5), (6, .int x6), (7, .int x7), (8, .ref t0), (9, .int (b2i z.1)), (10, .int z.2.1)] [] [OB cy h0 hs ta z.2.2, AI cy 12 t0 w0] := by
  unfold f_L_holds_B186 at hf
  refine g_iload X dL_holds_186 10 rfl ?_
  refine g_iload_n X dL_holds_188 2 rfl rfl ?_
  refine g_icmp_ge X 227 dL_holds_189 (by decide) (fun c1321 => ?_) (fun c1321 => ?_)
  · have hf := opos c1321 hf
    refine g_widen (k := (cb + 2)) (n := (sb + 12)) (by omega) (by omega) ?_
    refine g_sub [0, 1, 2, 3, 4, 5, 6, 7, 9] (lv' := [(0, .ref h0), (1, .int x1), (2, .int x2), (3, .int x3), (4, .int x4), (5, .int x5), (6, .int x6), (7, .int x7), (9, .int (b2i z.1))]) rfl ?_
    exact K2 (z.1, z.2.2) (Option.some.inj hf).symm
  · have hf := oneg c1321 hf
    refine g_iload X dL_holds_192 9 rfl ?_
    refine g_if_eq X 227 dL_holds_194 (by decide) (fun c1320 => ?_) (fun c1320 => ?_)
    · have hf := opos c1320 hf
      refine g_widen (k := (cb + 2)) (n := (sb + 12)) (by omega) (by omega) ?_
      refine g_sub [0, 1, 2, 3, 4, 5, 6, 7, 9] (lv' := [(0, .ref h0), (1, .int x1), (2, .int x2), (3, .int x3), (4, .int x4), (5, .int x5), (6, .int x6), (7, .int x7), (9, .int (b2i z.1))]) rfl ?_
      exact K2 (z.1, z.2.2) (Option.some.inj hf).symm
    · have hf := oneg c1320 hf
      refine g_aload_n X dL_holds_197 0 rfl rfl ?_
      refine g_iconst X (3 : Int32) dL_holds_198 (by decide) ?_
      refine g_iload X dL_holds_199 10 rfl ?_
      refine g_iconst X (0 : Int32) dL_holds_201 (by decide) ?_
      refine g_iconst X (0 : Int32) dL_holds_202 (by decide) ?_
      obtain ⟨q1317, hq1317, hf⟩ := obind hf
      refine g_callS (gs' := [OB cy h0 hs ta q1317.2, AI cy 12 t0 w0]) (rest := []) X dL_holds_203 (o_L_call l D cy ad h0 hs ta z.2.2 (3 : Int32) z.2.1 (0 : Int32) (0 : Int32) hfl hq1317) mf_L_call ms_L_call lkm_L_144 ⟨(Nat.le_of_ble_eq_true rfl), (Nat.le_of_ble_eq_true rfl), hk1 2 (by decide), hk2 12 (by decide)⟩ [0, 1] _ (by decide : [0, 1].Perm (List.range 2)) rfl (by decide : [0, 1].Perm (List.range 2)) rfl (Nat.le_of_ble_eq_true rfl) rfl ?_
      refine g_cs (c' := (cb + 2)) (s' := (sb + 12)) rfl rfl ?_
      refine g_aload X dL_holds_206 8 rfl ?_
      refine g_iload X dL_holds_208 10 rfl ?_
      obtain ⟨n1318, hf⟩ := oguard hf
      refine g_iaload X dL_holds_210 1 0 rfl rfl n1318 ?_
      refine g_icmp_ne X 218 dL_holds_211 (by decide) (fun c1319 => ?_) (fun c1319 => ?_)
      · have hf := oneg c1319 hf
        refine g_iconst X (0 : Int32) dL_holds_218 (by decide) ?_
        refine g_sub [0, 1, 2, 3, 4, 5, 6, 7, 8, 10] (lv' := [(0, .ref h0), (1, .int x1), (2, .int x2), (3, .int x3), (4, .int x4), (5, .int x5), (6, .int x6), (7, .int x7), (8, .ref t0), (10, .int z.2.1)]) rfl ?_
        exact j_L_holds_B186_b219 X hr hfl hk1 hk2 q1317.2 w0 x1 x2 x3 x4 x5 x6 x7 z.2.1 false hf K1 K2
      · have hf := opos c1319 hf
        refine g_iconst X (1 : Int32) dL_holds_214 (by decide) ?_
        refine g_goto X 219 dL_holds_215 (by decide) ?_
        refine g_sub [0, 1, 2, 3, 4, 5, 6, 7, 8, 10] (lv' := [(0, .ref h0), (1, .int x1), (2, .int x2), (3, .int x3), (4, .int x4), (5, .int x5), (6, .int x6), (7, .int x7), (8, .ref t0), (10, .int z.2.1)]) rfl ?_
        exact j_L_holds_B186_b219 X hr hfl hk1 hk2 q1317.2 w0 x1 x2 x3 x4 x5 x6 x7 z.2.1 true hf K1 K2
set_option maxRecDepth 100000 in
set_option maxHeartbeats 4000000 in
theorem w_L_holds_B186 {p : Program} {l : Launch} {e : Env} {s : State} {m : MethodId} {args : Array Value} {below : List Frame} {meth : Method} {c : Code} {A : Nat → Prop} {D : va_G} {cy : Nat → ClassId} {ad : (Nat → Nat) × (Nat → Nat)} {Q : State → Prop} (X : gK p s m args meth c A D cy ad cL_holds 17 RL) (hr : meth.sig.returnType = (some .boolean)) (hfl : l.stackTraces = false) {h0 t0 : Nat} {hs : Nat → Nat} {ta : TAd} (w0 : Fn) (x1 : Int32) (x2 : Int32) (x3 : Int32) (x4 : Int32) (x5 : Int32) (x6 : Int32) (x7 : Int32) : ∀ {n : Nat} {cb sb : Nat} {z : Bool × Int32 × OBv} {q : (Bool × OBv)} (hf : itl (f_L_holds_B186 w0 x1 x2 x3 x4 x5 x6 x7) n z = some q) (h1 : cb + n * 2 ≤ rmL_holds.cells) (h2 : sb + n * 12 ≤ rmL_holds.slots) (K : GW p l e rmL_holds s m args below meth c A D 17 (cb + n * 2) (sb + n * 12) Q 227 [(0, .ref h0), (1, .int x1), (2, .int x2), (3, .int x3), (4, .int x4), (5, .int x5), (6, .int x6), (7, .int x7), (9, .int (b2i q.1))] [] [OB cy h0 hs ta q.2, AI cy 12 t0 w0]), GW p l e rmL_holds s m args below meth c A D 17 cb sb Q 186 [(0, .ref h0), (1, .int x1), (2, .int x2), (3, .int x3), (4, .int x4), (5, .int x5), (6, .int x6), (7, .int x7), (8, .ref t0), (9, .int (b2i z.1)), (10, .int z.2.1)] [] [OB cy h0 hs ta z.2.2, AI cy 12 t0 w0] := by
  intro n
  induction n with
  | zero => intro cb sb z q hf; exact nomatch hf
  | succ n ih =>
    intro cb sb z q hf h1 h2 K
    have e1 : cb + 2 + n * 2 = cb + (n + 1) * 2 := by rw [Nat.succ_mul]; omega
    have e2 : sb + 12 + n * 12 = sb + (n + 1) * 12 := by rw [Nat.succ_mul]; omega
    cases hq : f_L_holds_B186 w0 x1 x2 x3 x4 x5 x6 x7 z with
    | none => rw [itl, hq] at hf; exact nomatch hf
    | some q9 =>
      rw [itl, hq] at hf
      refine b_L_holds_B186 X hr hfl (fun k hk => by omega) (fun k hk => by omega) w0 x1 x2 x3 x4 x5 x6 x7 z hq (fun s' hs => ?_) (fun e' he => ?_)
      · subst hs
        exact ih hf (by omega) (by omega) (by rw [e1, e2]; exact K)
      · subst he
        cases (Option.some.inj hf)
        exact g_widen (by omega) (by omega) K
def f_L_holds_B236_b337 (v0 : OBv) (w0 : Fn) (x1 : Int32) (x2 : Int32) (x4 : Int32) (x5 : Int32) (x6 : Int32) (x7 : Int32) (x11 : Int32) (x12 : Int32) (x13 : Int32) (y0 : Bool) : Option ((Bool × Int32 × Int32 × Int32 × OBv) ⊕ ((Bool × Int32 × Int32 × OBv))) :=
  some (.inl (y0, x13, x11, (x12 + (1 : Int32)), v0))
set_option maxRecDepth 100000 in
set_option maxHeartbeats 4000000 in
theorem j_L_holds_B236_b337 {p : Program} {l : Launch} {e : Env} {s : State} {m : MethodId} {args : Array Value} {below : List Frame} {meth : Method} {c : Code} {A : Nat → Prop} {D : va_G} {cy : Nat → ClassId} {ad : (Nat → Nat) × (Nat → Nat)} {Q : State → Prop} (X : gK p s m args meth c A D cy ad cL_holds 17 RL) (hr : meth.sig.returnType = (some .boolean)) (hfl : l.stackTraces = false) {cb sb : Nat} (hk1 : ∀ k, k ≤ 10 → cb + k ≤ rmL_holds.cells) (hk2 : ∀ k, k ≤ 60 → sb + k ≤ rmL_holds.slots) {h0 t0 : Nat} {hs : Nat → Nat} {ta : TAd} (v0 : OBv) (w0 : Fn) (x1 : Int32) (x2 : Int32) (x4 : Int32) (x5 : Int32) (x6 : Int32) (x7 : Int32) (x11 : Int32) (x12 : Int32) (x13 : Int32) (y0 : Bool) {q : (Bool × Int32 × Int32 × Int32 × OBv) ⊕ ((Bool × Int32 × Int32 × OBv))} (hf : f_L_holds_B236_b337 v0 w0 x1 x2 x4 x5 x6 x7 x11 x12 x13 y0 = some q) (K1 : ∀ s' : Bool × Int32 × Int32 × Int32 × OBv, q = .inl s' → GW p l e rmL_holds s m args below meth c A D 17 (cb + 10) (sb + 60) Q 236 [(0, .ref h0), (1, .int x1), (2, .int x2), (4, .int x4), (5, .int x5), (6, .int x6), (7, .int x7), (9, .int (b2i s'.1)), (10, .int s'.2.1), (11, .int s'.2.2.1), (12, .int s'.2.2.2.1)] [] [OB cy h0 hs ta s'.2.2.2.2, AI cy 12 t0 w0]) (K2 : ∀ e' : Bool × Int32 × Int32 × OBv, q = .inr (e') → GW p l e rmL_holds s m args below meth c A D 17 (cb + 10) (sb + 60) Q 349 [(0, .ref h0), (1, .int x1), (2, .int x2), (4, .int x4), (6, .int x6), (7, .int x7), (9, .int (b2i e'.1)), (10, .int e'.2.1), (11, .int e'.2.2.1)] [] [OB cy h0 hs ta e'.2.2.2, AI cy 12 t0 w0]) : GW p l e rmL_holds s m args below meth c A D 17 (cb + 10) (sb + 60) Q 337 [(0, .ref h0), (1, .int x1), (2, .int x2), (4, .int x4), (5, .int x5), (6, .int x6), (7, .int x7), (11, .int x11), (12, .int x12), (13, .int x13)] [.int (b2i y0)] [OB cy h0 hs ta v0, AI cy 12 t0 w0] := by
  unfold f_L_holds_B236_b337 at hf
  refine g_istore (lv' := [(0, .ref h0), (1, .int x1), (2, .int x2), (4, .int x4), (5, .int x5), (6, .int x6), (7, .int x7), (9, .int (b2i y0)), (11, .int x11), (12, .int x12), (13, .int x13)]) X dL_holds_337 [1, 2, 3, 4, 5, 6, 7, 0, 8, 9, 10] (Nat.le_of_ble_eq_true rfl) rfl ?_
  refine g_iload X dL_holds_339 10 rfl ?_
  refine g_istore (lv' := [(0, .ref h0), (1, .int x1), (2, .int x2), (4, .int x4), (5, .int x5), (6, .int x6), (7, .int x7), (9, .int (b2i y0)), (10, .int x13), (11, .int x11), (12, .int x12), (13, .int x13)]) X dL_holds_341 [1, 2, 3, 4, 5, 6, 7, 8, 0, 9, 10, 11] (Nat.le_of_ble_eq_true rfl) rfl ?_
  refine g_iinc (lv' := [(0, .ref h0), (1, .int x1), (2, .int x2), (4, .int x4), (5, .int x5), (6, .int x6), (7, .int x7), (9, .int (b2i y0)), (10, .int x13), (11, .int x11), (12, .int (x12 + (1 : Int32))), (13, .int x13)]) (v := (1 : Int32)) X dL_holds_343 10 rfl (by decide) [1, 2, 3, 4, 5, 6, 7, 8, 9, 10, 0, 11] (Nat.le_of_ble_eq_true rfl) rfl ?_
  refine g_goto X 236 dL_holds_346 (by decide) ?_
  refine g_sub [0, 1, 2, 3, 4, 5, 6, 7, 8, 9, 10] (lv' := [(0, .ref h0), (1, .int x1), (2, .int x2), (4, .int x4), (5, .int x5), (6, .int x6), (7, .int x7), (9, .int (b2i y0)), (10, .int x13), (11, .int x11), (12, .int (x12 + (1 : Int32)))]) rfl ?_
  exact K1 (y0, x13, x11, (x12 + (1 : Int32)), v0) (Option.some.inj hf).symm
def f_L_holds_B236_b336 (v0 : OBv) (w0 : Fn) (x1 : Int32) (x2 : Int32) (x4 : Int32) (x5 : Int32) (x6 : Int32) (x7 : Int32) (x11 : Int32) (x12 : Int32) (x13 : Int32) : Option ((Bool × Int32 × Int32 × Int32 × OBv) ⊕ ((Bool × Int32 × Int32 × OBv))) :=
  f_L_holds_B236_b337 v0 w0 x1 x2 x4 x5 x6 x7 x11 x12 x13 false
set_option maxRecDepth 100000 in
set_option maxHeartbeats 4000000 in
theorem j_L_holds_B236_b336 {p : Program} {l : Launch} {e : Env} {s : State} {m : MethodId} {args : Array Value} {below : List Frame} {meth : Method} {c : Code} {A : Nat → Prop} {D : va_G} {cy : Nat → ClassId} {ad : (Nat → Nat) × (Nat → Nat)} {Q : State → Prop} (X : gK p s m args meth c A D cy ad cL_holds 17 RL) (hr : meth.sig.returnType = (some .boolean)) (hfl : l.stackTraces = false) {cb sb : Nat} (hk1 : ∀ k, k ≤ 10 → cb + k ≤ rmL_holds.cells) (hk2 : ∀ k, k ≤ 60 → sb + k ≤ rmL_holds.slots) {h0 t0 : Nat} {hs : Nat → Nat} {ta : TAd} (v0 : OBv) (w0 : Fn) (x1 : Int32) (x2 : Int32) (x4 : Int32) (x5 : Int32) (x6 : Int32) (x7 : Int32) (x11 : Int32) (x12 : Int32) (x13 : Int32) {q : (Bool × Int32 × Int32 × Int32 × OBv) ⊕ ((Bool × Int32 × Int32 × OBv))} (hf : f_L_holds_B236_b336 v0 w0 x1 x2 x4 x5 x6 x7 x11 x12 x13 = some q) (K1 : ∀ s' : Bool × Int32 × Int32 × Int32 × OBv, q = .inl s' → GW p l e rmL_holds s m args below meth c A D 17 (cb + 10) (sb + 60) Q 236 [(0, .ref h0), (1, .int x1), (2, .int x2), (4, .int x4), (5, .int x5), (6, .int x6), (7, .int x7), (9, .int (b2i s'.1)), (10, .int s'.2.1), (11, .int s'.2.2.1), (12, .int s'.2.2.2.1)] [] [OB cy h0 hs ta s'.2.2.2.2, AI cy 12 t0 w0]) (K2 : ∀ e' : Bool × Int32 × Int32 × OBv, q = .inr (e') → GW p l e rmL_holds s m args below meth c A D 17 (cb + 10) (sb + 60) Q 349 [(0, .ref h0), (1, .int x1), (2, .int x2), (4, .int x4), (6, .int x6), (7, .int x7), (9, .int (b2i e'.1)), (10, .int e'.2.1), (11, .int e'.2.2.1)] [] [OB cy h0 hs ta e'.2.2.2, AI cy 12 t0 w0]) : GW p l e rmL_holds s m args below meth c A D 17 (cb + 10) (sb + 60) Q 336 [(0, .ref h0), (1, .int x1), (2, .int x2), (4, .int x4), (5, .int x5), (6, .int x6), (7, .int x7), (11, .int x11), (12, .int x12), (13, .int x13)] [] [OB cy h0 hs ta v0, AI cy 12 t0 w0] := by
  unfold f_L_holds_B236_b336 at hf
  refine g_iconst X (0 : Int32) dL_holds_336 (by decide) ?_
  exact j_L_holds_B236_b337 X hr hfl hk1 hk2 v0 w0 x1 x2 x4 x5 x6 x7 x11 x12 x13 false hf K1 K2
def f_L_holds_B236_b273 (v0 : OBv) (w0 : Fn) (x1 : Int32) (x2 : Int32) (x4 : Int32) (x5 : Int32) (x6 : Int32) (x7 : Int32) (x10 : Int32) (x12 : Int32) (x13 : Int32) (y0 : Bool) (y1 : Int32) : Option ((Bool × Int32 × Int32 × Int32 × OBv) ⊕ ((Bool × Int32 × Int32 × OBv))) :=
  if x10 < x13 then f_L_holds_B236_b336 v0 w0 x1 x2 x4 x5 x6 x7 (y1 + (b2i y0)) x12 x13 else if x13 ≤ 0 then f_L_holds_B236_b336 v0 w0 x1 x2 x4 x5 x6 x7 (y1 + (b2i y0)) x12 x13 else (f_O_call v0 (5 : Int32) x12 (0 : Int32) (0 : Int32)).bind (fun q1325 => (f_O_call q1325.2 (5 : Int32) x12 (1 : Int32) (0 : Int32)).bind (fun q1326 => if (q1325.1 &&& q1326.1) = 0 then (f_O_call q1326.2 (5 : Int32) x12 (0 : Int32) (0 : Int32)).bind (fun q1327 => (f_O_call q1327.2 (5 : Int32) x12 (1 : Int32) (0 : Int32)).bind (fun q1328 => if (q1327.1 ||| q1328.1) ≤ 0 then f_L_holds_B236_b336 q1328.2 w0 x1 x2 x4 x5 x6 x7 (y1 + (b2i y0)) x12 x13 else f_L_holds_B236_b337 q1328.2 w0 x1 x2 x4 x5 x6 x7 (y1 + (b2i y0)) x12 x13 true)) else f_L_holds_B236_b336 q1326.2 w0 x1 x2 x4 x5 x6 x7 (y1 + (b2i y0)) x12 x13))
set_option maxRecDepth 100000 in
set_option maxHeartbeats 4000000 in
theorem j_L_holds_B236_b273 {p : Program} {l : Launch} {e : Env} {s : State} {m : MethodId} {args : Array Value} {below : List Frame} {meth : Method} {c : Code} {A : Nat → Prop} {D : va_G} {cy : Nat → ClassId} {ad : (Nat → Nat) × (Nat → Nat)} {Q : State → Prop} (X : gK p s m args meth c A D cy ad cL_holds 17 RL) (hr : meth.sig.returnType = (some .boolean)) (hfl : l.stackTraces = false) {cb sb : Nat} (hk1 : ∀ k, k ≤ 10 → cb + k ≤ rmL_holds.cells) (hk2 : ∀ k, k ≤ 60 → sb + k ≤ rmL_holds.slots) {h0 t0 : Nat} {hs : Nat → Nat} {ta : TAd} (v0 : OBv) (w0 : Fn) (x1 : Int32) (x2 : Int32) (x4 : Int32) (x5 : Int32) (x6 : Int32) (x7 : Int32) (x10 : Int32) (x12 : Int32) (x13 : Int32) (y0 : Bool) (y1 : Int32) {q : (Bool × Int32 × Int32 × Int32 × OBv) ⊕ ((Bool × Int32 × Int32 × OBv))} (hf : f_L_holds_B236_b273 v0 w0 x1 x2 x4 x5 x6 x7 x10 x12 x13 y0 y1 = some q) (K1 : ∀ s' : Bool × Int32 × Int32 × Int32 × OBv, q = .inl s' → GW p l e rmL_holds s m args below meth c A D 17 (cb + 10) (sb + 60) Q 236 [(0, .ref h0), (1, .int x1), (2, .int x2), (4, .int x4), (5, .int x5), (6, .int x6), (7, .int x7), (9, .int (b2i s'.1)), (10, .int s'.2.1), (11, .int s'.2.2.1), (12, .int s'.2.2.2.1)] [] [OB cy h0 hs ta s'.2.2.2.2, AI cy 12 t0 w0]) (K2 : ∀ e' : Bool × Int32 × Int32 × OBv, q = .inr (e') → GW p l e rmL_holds s m args below meth c A D 17 (cb + 10) (sb + 60) Q 349 [(0, .ref h0), (1, .int x1), (2, .int x2), (4, .int x4), (6, .int x6), (7, .int x7), (9, .int (b2i e'.1)), (10, .int e'.2.1), (11, .int e'.2.2.1)] [] [OB cy h0 hs ta e'.2.2.2, AI cy 12 t0 w0]) : GW p l e rmL_holds s m args below meth c A D 17 (cb + 2) (sb + 12) Q 273 [(0, .ref h0), (1, .int x1), (2, .int x2), (4, .int x4), (5, .int x5), (6, .int x6), (7, .int x7), (10, .int x10), (12, .int x12), (13, .int x13)] [.int (b2i y0), .int y1] [OB cy h0 hs ta v0, AI cy 12 t0 w0] := by
  unfold f_L_holds_B236_b273 at hf
  refine g_iadd X dL_holds_273 ?_
  refine g_istore (lv' := [(0, .ref h0), (1, .int x1), (2, .int x2), (4, .int x4), (5, .int x5), (6, .int x6), (7, .int x7), (10, .int x10), (11, .int (y1 + (b2i y0))), (12, .int x12), (13, .int x13)]) X dL_holds_274 [1, 2, 3, 4, 5, 6, 7, 8, 0, 9, 10] (Nat.le_of_ble_eq_true rfl) rfl ?_
  refine g_iload X dL_holds_276 10 rfl ?_
  refine g_iload X dL_holds_278 7 rfl ?_
  refine g_icmp_gt X 336 dL_holds_280 (by decide) (fun c1332 => ?_) (fun c1332 => ?_)
  · have hf := opos c1332 hf
    refine g_widen (k := (cb + 10)) (n := (sb + 60)) (by omega) (by omega) ?_
    refine g_sub [0, 1, 2, 3, 4, 5, 6, 8, 9, 10] (lv' := [(0, .ref h0), (1, .int x1), (2, .int x2), (4, .int x4), (5, .int x5), (6, .int x6), (7, .int x7), (11, .int (y1 + (b2i y0))), (12, .int x12), (13, .int x13)]) rfl ?_
    exact j_L_holds_B236_b336 X hr hfl hk1 hk2 v0 w0 x1 x2 x4 x5 x6 x7 (y1 + (b2i y0)) x12 x13 hf K1 K2
  · have hf := oneg c1332 hf
    refine g_iload X dL_holds_283 10 rfl ?_
    refine g_if_le X 336 dL_holds_285 (by decide) (fun c1331 => ?_) (fun c1331 => ?_)
    · have hf := opos c1331 hf
      refine g_widen (k := (cb + 10)) (n := (sb + 60)) (by omega) (by omega) ?_
      refine g_sub [0, 1, 2, 3, 4, 5, 6, 8, 9, 10] (lv' := [(0, .ref h0), (1, .int x1), (2, .int x2), (4, .int x4), (5, .int x5), (6, .int x6), (7, .int x7), (11, .int (y1 + (b2i y0))), (12, .int x12), (13, .int x13)]) rfl ?_
      exact j_L_holds_B236_b336 X hr hfl hk1 hk2 v0 w0 x1 x2 x4 x5 x6 x7 (y1 + (b2i y0)) x12 x13 hf K1 K2
    · have hf := oneg c1331 hf
      refine g_aload_n X dL_holds_288 0 rfl rfl ?_
      refine g_iconst X (5 : Int32) dL_holds_289 (by decide) ?_
      refine g_iload X dL_holds_290 9 rfl ?_
      refine g_iconst X (0 : Int32) dL_holds_292 (by decide) ?_
      refine g_iconst X (0 : Int32) dL_holds_293 (by decide) ?_
      obtain ⟨q1325, hq1325, hf⟩ := obind hf
      refine g_callS (gs' := [OB cy h0 hs ta q1325.2, AI cy 12 t0 w0]) (rest := []) X dL_holds_294 (o_L_call l D cy ad h0 hs ta v0 (5 : Int32) x12 (0 : Int32) (0 : Int32) hfl hq1325) mf_L_call ms_L_call lkm_L_144 ⟨(Nat.le_of_ble_eq_true rfl), (Nat.le_of_ble_eq_true rfl), hk1 4 (by decide), hk2 24 (by decide)⟩ [0, 1] _ (by decide : [0, 1].Perm (List.range 2)) rfl (by decide : [0, 1].Perm (List.range 2)) rfl (Nat.le_of_ble_eq_true rfl) rfl ?_
      refine g_cs (c' := (cb + 4)) (s' := (sb + 24)) rfl rfl ?_
      refine g_aload_n X dL_holds_297 0 rfl rfl ?_
      refine g_iconst X (5 : Int32) dL_holds_298 (by decide) ?_
      refine g_iload X dL_holds_299 9 rfl ?_
      refine g_iconst X (1 : Int32) dL_holds_301 (by decide) ?_
      refine g_iconst X (0 : Int32) dL_holds_302 (by decide) ?_
      obtain ⟨q1326, hq1326, hf⟩ := obind hf
      refine g_callS (gs' := [OB cy h0 hs ta q1326.2, AI cy 12 t0 w0]) (rest := [.int q1325.1]) X dL_holds_303 (o_L_call l D cy ad h0 hs ta q1325.2 (5 : Int32) x12 (1 : Int32) (0 : Int32) hfl hq1326) mf_L_call ms_L_call lkm_L_144 ⟨(Nat.le_of_ble_eq_true rfl), (Nat.le_of_ble_eq_true rfl), hk1 6 (by decide), hk2 36 (by decide)⟩ [0, 1] _ (by decide : [0, 1].Perm (List.range 2)) rfl (by decide : [0, 1].Perm (List.range 2)) rfl (Nat.le_of_ble_eq_true rfl) rfl ?_
      refine g_cs (c' := (cb + 6)) (s' := (sb + 36)) rfl rfl ?_
      refine g_iand X dL_holds_306 ?_
      refine g_if_ne X 336 dL_holds_307 (by decide) (fun c1330 => ?_) (fun c1330 => ?_)
      · have hf := oneg c1330 hf
        refine g_widen (k := (cb + 10)) (n := (sb + 60)) (by omega) (by omega) ?_
        refine g_sub [0, 1, 2, 3, 4, 5, 6, 8, 9, 10] (lv' := [(0, .ref h0), (1, .int x1), (2, .int x2), (4, .int x4), (5, .int x5), (6, .int x6), (7, .int x7), (11, .int (y1 + (b2i y0))), (12, .int x12), (13, .int x13)]) rfl ?_
        exact j_L_holds_B236_b336 X hr hfl hk1 hk2 q1326.2 w0 x1 x2 x4 x5 x6 x7 (y1 + (b2i y0)) x12 x13 hf K1 K2
      · have hf := opos c1330 hf
        refine g_aload_n X dL_holds_310 0 rfl rfl ?_
        refine g_iconst X (5 : Int32) dL_holds_311 (by decide) ?_
        refine g_iload X dL_holds_312 9 rfl ?_
        refine g_iconst X (0 : Int32) dL_holds_314 (by decide) ?_
        refine g_iconst X (0 : Int32) dL_holds_315 (by decide) ?_
        obtain ⟨q1327, hq1327, hf⟩ := obind hf
        refine g_callS (gs' := [OB cy h0 hs ta q1327.2, AI cy 12 t0 w0]) (rest := []) X dL_holds_316 (o_L_call l D cy ad h0 hs ta q1326.2 (5 : Int32) x12 (0 : Int32) (0 : Int32) hfl hq1327) mf_L_call ms_L_call lkm_L_144 ⟨(Nat.le_of_ble_eq_true rfl), (Nat.le_of_ble_eq_true rfl), hk1 8 (by decide), hk2 48 (by decide)⟩ [0, 1] _ (by decide : [0, 1].Perm (List.range 2)) rfl (by decide : [0, 1].Perm (List.range 2)) rfl (Nat.le_of_ble_eq_true rfl) rfl ?_
        refine g_cs (c' := (cb + 8)) (s' := (sb + 48)) rfl rfl ?_
        refine g_aload_n X dL_holds_319 0 rfl rfl ?_
        refine g_iconst X (5 : Int32) dL_holds_320 (by decide) ?_
        refine g_iload X dL_holds_321 9 rfl ?_
        refine g_iconst X (1 : Int32) dL_holds_323 (by decide) ?_
        refine g_iconst X (0 : Int32) dL_holds_324 (by decide) ?_
        obtain ⟨q1328, hq1328, hf⟩ := obind hf
        refine g_callS (gs' := [OB cy h0 hs ta q1328.2, AI cy 12 t0 w0]) (rest := [.int q1327.1]) X dL_holds_325 (o_L_call l D cy ad h0 hs ta q1327.2 (5 : Int32) x12 (1 : Int32) (0 : Int32) hfl hq1328) mf_L_call ms_L_call lkm_L_144 ⟨(Nat.le_of_ble_eq_true rfl), (Nat.le_of_ble_eq_true rfl), hk1 10 (by decide), hk2 60 (by decide)⟩ [0, 1] _ (by decide : [0, 1].Perm (List.range 2)) rfl (by decide : [0, 1].Perm (List.range 2)) rfl (Nat.le_of_ble_eq_true rfl) rfl ?_
        refine g_cs (c' := (cb + 10)) (s' := (sb + 60)) rfl rfl ?_
        refine g_ior X dL_holds_328 ?_
        refine g_if_le X 336 dL_holds_329 (by decide) (fun c1329 => ?_) (fun c1329 => ?_)
        · have hf := opos c1329 hf
          refine g_sub [0, 1, 2, 3, 4, 5, 6, 8, 9, 10] (lv' := [(0, .ref h0), (1, .int x1), (2, .int x2), (4, .int x4), (5, .int x5), (6, .int x6), (7, .int x7), (11, .int (y1 + (b2i y0))), (12, .int x12), (13, .int x13)]) rfl ?_
          exact j_L_holds_B236_b336 X hr hfl hk1 hk2 q1328.2 w0 x1 x2 x4 x5 x6 x7 (y1 + (b2i y0)) x12 x13 hf K1 K2
        · have hf := oneg c1329 hf
          refine g_iconst X (1 : Int32) dL_holds_332 (by decide) ?_
          refine g_goto X 337 dL_holds_333 (by decide) ?_
          refine g_sub [0, 1, 2, 3, 4, 5, 6, 8, 9, 10] (lv' := [(0, .ref h0), (1, .int x1), (2, .int x2), (4, .int x4), (5, .int x5), (6, .int x6), (7, .int x7), (11, .int (y1 + (b2i y0))), (12, .int x12), (13, .int x13)]) rfl ?_
          exact j_L_holds_B236_b337 X hr hfl hk1 hk2 q1328.2 w0 x1 x2 x4 x5 x6 x7 (y1 + (b2i y0)) x12 x13 true hf K1 K2
def f_L_holds_B236 (w0 : Fn) (x1 : Int32) (x2 : Int32) (x4 : Int32) (x5 : Int32) (x6 : Int32) (x7 : Int32) (z : Bool × Int32 × Int32 × Int32 × OBv) : Option ((Bool × Int32 × Int32 × Int32 × OBv) ⊕ ((Bool × Int32 × Int32 × OBv))) :=
  if x5 ≤ z.2.2.2.1 then some (.inr ((z.1, z.2.1, z.2.2.1, z.2.2.2.2))) else if (b2i z.1) = 0 then some (.inr ((z.1, z.2.1, z.2.2.1, z.2.2.2.2))) else (f_O_call z.2.2.2.2 (5 : Int32) z.2.2.2.1 (5 : Int32) (0 : Int32)).bind (fun q1324 => if q1324.1 = z.2.1 then f_L_holds_B236_b273 q1324.2 w0 x1 x2 x4 x5 x6 x7 z.2.1 z.2.2.2.1 q1324.1 true z.2.2.1 else f_L_holds_B236_b273 q1324.2 w0 x1 x2 x4 x5 x6 x7 z.2.1 z.2.2.2.1 q1324.1 false z.2.2.1)
set_option maxRecDepth 100000 in
set_option maxHeartbeats 4000000 in
theorem b_L_holds_B236 {p : Program} {l : Launch} {e : Env} {s : State} {m : MethodId} {args : Array Value} {below : List Frame} {meth : Method} {c : Code} {A : Nat → Prop} {D : va_G} {cy : Nat → ClassId} {ad : (Nat → Nat) × (Nat → Nat)} {Q : State → Prop} (X : gK p s m args meth c A D cy ad cL_holds 17 RL) (hr : meth.sig.returnType = (some .boolean)) (hfl : l.stackTraces = false) {cb sb : Nat} (hk1 : ∀ k, k ≤ 10 → cb + k ≤ rmL_holds.cells) (hk2 : ∀ k, k ≤ 60 → sb + k ≤ rmL_holds.slots) {h0 t0 : Nat} {hs : Nat → Nat} {ta : TAd} (w0 : Fn) (x1 : Int32) (x2 : Int32) (x4 : Int32) (x5 : Int32) (x6 : Int32) (x7 : Int32) (z : Bool × Int32 × Int32 × Int32 × OBv) {q : (Bool × Int32 × Int32 × Int32 × OBv) ⊕ ((Bool × Int32 × Int32 × OBv))} (hf : f_L_holds_B236 w0 x1 x2 x4 x5 x6 x7 z = some q) (K1 : ∀ s' : Bool × Int32 × Int32 × Int32 × OBv, q = .inl s' → GW p l e rmL_holds s m args below meth c A D 17 (cb + 10) (sb + 60) Q 236 [(0, .ref h0), (1, .int x1), (2, .int x2), (4, .int x4), (5, .int x5), (6, .int x6), (7, .int x7), (9, .int (b2i s'.1)), (10, .int s'.2.1), (11, .int s'.2.2.1), (12, .int s'.2.2.2.1)] [] [OB cy h0 hs ta s'.2.2.2.2, AI cy 12 t0 w0]) (K2 : ∀ e' : Bool × Int32 × Int32 × OBv, q = .inr (e') → GW p l e rmL_holds s m args below meth c A D 17 (cb + 10) (sb + 60) Q 349 [(0, .ref h0), (1, .int x1), (2, .int x2), (4, .int x4), (6, .int x6), (7, .int x7), (9, .int (b2i e'.1)), (10, .int e'.2.1), (11, .int e'.2.2.1)] [] [OB cy h0 hs ta e'.2.2.2, AI cy 12 t0 w0]) : GW p l e rmL_holds s m args below meth c A D 17 cb sb Q 236 [(0, .ref h0), (1, .int x1), (2, .int x2), (4, .int x4), (5, .int x5), (6, .int x6), (7, .int x7), (9, .int (b2i z.1)), (10, .int z.2.1), (11, .int z.2.2.1), (12, .int z.2.2.2.1)] [] [OB cy h0 hs ta z.2.2.2.2, AI cy 12 t0 w0] := by
  unfold f_L_holds_B236 at hf
  refine g_iload X dL_holds_236 10 rfl ?_
  refine g_iload X dL_holds_238 4 rfl ?_
  refine g_icmp_ge X 349 dL_holds_240 (by decide) (fun c1335 => ?_) (fun c1335 => ?_)
  · have hf := opos c1335 hf
    refine g_widen (k := (cb + 10)) (n := (sb + 60)) (by omega) (by omega) ?_
    refine g_sub [0, 1, 2, 3, 5, 6, 7, 8, 9] (lv' := [(0, .ref h0), (1, .int x1), (2, .int x2), (4, .int x4), (6, .int x6), (7, .int x7), (9, .int (b2i z.1)), (10, .int z.2.1), (11, .int z.2.2.1)]) rfl ?_
    exact K2 (z.1, z.2.1, z.2.2.1, z.2.2.2.2) (Option.some.inj hf).symm
  · have hf := oneg c1335 hf
    refine g_iload X dL_holds_243 7 rfl ?_
    refine g_if_eq X 349 dL_holds_245 (by decide) (fun c1334 => ?_) (fun c1334 => ?_)
    · have hf := opos c1334 hf
      refine g_widen (k := (cb + 10)) (n := (sb + 60)) (by omega) (by omega) ?_
      refine g_sub [0, 1, 2, 3, 5, 6, 7, 8, 9] (lv' := [(0, .ref h0), (1, .int x1), (2, .int x2), (4, .int x4), (6, .int x6), (7, .int x7), (9, .int (b2i z.1)), (10, .int z.2.1), (11, .int z.2.2.1)]) rfl ?_
      exact K2 (z.1, z.2.1, z.2.2.1, z.2.2.2.2) (Option.some.inj hf).symm
    · have hf := oneg c1334 hf
      refine g_aload_n X dL_holds_248 0 rfl rfl ?_
      refine g_iconst X (5 : Int32) dL_holds_249 (by decide) ?_
      refine g_iload X dL_holds_250 10 rfl ?_
      refine g_iconst X (5 : Int32) dL_holds_252 (by decide) ?_
      refine g_iconst X (0 : Int32) dL_holds_253 (by decide) ?_
      obtain ⟨q1324, hq1324, hf⟩ := obind hf
      refine g_callS (gs' := [OB cy h0 hs ta q1324.2, AI cy 12 t0 w0]) (rest := []) X dL_holds_254 (o_L_call l D cy ad h0 hs ta z.2.2.2.2 (5 : Int32) z.2.2.2.1 (5 : Int32) (0 : Int32) hfl hq1324) mf_L_call ms_L_call lkm_L_144 ⟨(Nat.le_of_ble_eq_true rfl), (Nat.le_of_ble_eq_true rfl), hk1 2 (by decide), hk2 12 (by decide)⟩ [0, 1] _ (by decide : [0, 1].Perm (List.range 2)) rfl (by decide : [0, 1].Perm (List.range 2)) rfl (Nat.le_of_ble_eq_true rfl) rfl ?_
      refine g_cs (c' := (cb + 2)) (s' := (sb + 12)) rfl rfl ?_
      refine g_istore (lv' := [(0, .ref h0), (1, .int x1), (2, .int x2), (4, .int x4), (5, .int x5), (6, .int x6), (7, .int x7), (9, .int (b2i z.1)), (10, .int z.2.1), (11, .int z.2.2.1), (12, .int z.2.2.2.1), (13, .int q1324.1)]) X dL_holds_257 [1, 2, 3, 4, 5, 6, 7, 8, 9, 10, 11, 0] (Nat.le_of_ble_eq_true rfl) rfl ?_
      refine g_iload X dL_holds_259 9 rfl ?_
      refine g_iload X dL_holds_261 11 rfl ?_
      refine g_iload X dL_holds_263 8 rfl ?_
      refine g_icmp_ne X 272 dL_holds_265 (by decide) (fun c1333 => ?_) (fun c1333 => ?_)
      · have hf := oneg c1333 hf
        refine g_iconst X (0 : Int32) dL_holds_272 (by decide) ?_
        refine g_sub [0, 1, 2, 3, 4, 5, 6, 8, 10, 11] (lv' := [(0, .ref h0), (1, .int x1), (2, .int x2), (4, .int x4), (5, .int x5), (6, .int x6), (7, .int x7), (10, .int z.2.1), (12, .int z.2.2.2.1), (13, .int q1324.1)]) rfl ?_
        exact j_L_holds_B236_b273 X hr hfl hk1 hk2 q1324.2 w0 x1 x2 x4 x5 x6 x7 z.2.1 z.2.2.2.1 q1324.1 false z.2.2.1 hf K1 K2
      · have hf := opos c1333 hf
        refine g_iconst X (1 : Int32) dL_holds_268 (by decide) ?_
        refine g_goto X 273 dL_holds_269 (by decide) ?_
        refine g_sub [0, 1, 2, 3, 4, 5, 6, 8, 10, 11] (lv' := [(0, .ref h0), (1, .int x1), (2, .int x2), (4, .int x4), (5, .int x5), (6, .int x6), (7, .int x7), (10, .int z.2.1), (12, .int z.2.2.2.1), (13, .int q1324.1)]) rfl ?_
        exact j_L_holds_B236_b273 X hr hfl hk1 hk2 q1324.2 w0 x1 x2 x4 x5 x6 x7 z.2.1 z.2.2.2.1 q1324.1 true z.2.2.1 hf K1 K2
set_option maxRecDepth 100000 in
set_option maxHeartbeats 4000000 in
theorem w_L_holds_B236 {p : Program} {l : Launch} {e : Env} {s : State} {m : MethodId} {args : Array Value} {below : List Frame} {meth : Method} {c : Code} {A : Nat → Prop} {D : va_G} {cy : Nat → ClassId} {ad : (Nat → Nat) × (Nat → Nat)} {Q : State → Prop} (X : gK p s m args meth c A D cy ad cL_holds 17 RL) (hr : meth.sig.returnType = (some .boolean)) (hfl : l.stackTraces = false) {h0 t0 : Nat} {hs : Nat → Nat} {ta : TAd} (w0 : Fn) (x1 : Int32) (x2 : Int32) (x4 : Int32) (x5 : Int32) (x6 : Int32) (x7 : Int32) : ∀ {n : Nat} {cb sb : Nat} {z : Bool × Int32 × Int32 × Int32 × OBv} {q : (Bool × Int32 × Int32 × OBv)} (hf : itl (f_L_holds_B236 w0 x1 x2 x4 x5 x6 x7) n z = some q) (h1 : cb + n * 10 ≤ rmL_holds.cells) (h2 : sb + n * 60 ≤ rmL_holds.slots) (K : GW p l e rmL_holds s m args below meth c A D 17 (cb + n * 10) (sb + n * 60) Q 349 [(0, .ref h0), (1, .int x1), (2, .int x2), (4, .int x4), (6, .int x6), (7, .int x7), (9, .int (b2i q.1)), (10, .int q.2.1), (11, .int q.2.2.1)] [] [OB cy h0 hs ta q.2.2.2, AI cy 12 t0 w0]), GW p l e rmL_holds s m args below meth c A D 17 cb sb Q 236 [(0, .ref h0), (1, .int x1), (2, .int x2), (4, .int x4), (5, .int x5), (6, .int x6), (7, .int x7), (9, .int (b2i z.1)), (10, .int z.2.1), (11, .int z.2.2.1), (12, .int z.2.2.2.1)] [] [OB cy h0 hs ta z.2.2.2.2, AI cy 12 t0 w0] := by
  intro n
  induction n with
  | zero => intro cb sb z q hf; exact nomatch hf
  | succ n ih =>
    intro cb sb z q hf h1 h2 K
    have e1 : cb + 10 + n * 10 = cb + (n + 1) * 10 := by rw [Nat.succ_mul]; omega
    have e2 : sb + 60 + n * 60 = sb + (n + 1) * 60 := by rw [Nat.succ_mul]; omega
    cases hq : f_L_holds_B236 w0 x1 x2 x4 x5 x6 x7 z with
    | none => rw [itl, hq] at hf; exact nomatch hf
    | some q9 =>
      rw [itl, hq] at hf
      refine b_L_holds_B236 X hr hfl (fun k hk => by omega) (fun k hk => by omega) w0 x1 x2 x4 x5 x6 x7 z hq (fun s' hs => ?_) (fun e' he => ?_)
      · subst hs
        exact ih hf (by omega) (by omega) (by rw [e1, e2]; exact K)
      · subst he
        cases (Option.some.inj hf)
        exact g_widen (by omega) (by omega) K
def f_L_holds_B361 (v0 : OBv) (w0 : Fn) (x1 : Int32) (x2 : Int32) (x4 : Int32) (x6 : Int32) (x7 : Int32) (x9 : Bool) (x10 : Int32) (x11 : Int32) (x12 : Int32) (z : Int32 × Int32) : Option ((Int32 × Int32) ⊕ ((Int32))) :=
  if x12 ≤ z.2 then some (.inr ((z.1))) else some (.inl ((z.1 * (3 : Int32)), (z.2 + (1 : Int32))))
set_option maxRecDepth 100000 in
set_option maxHeartbeats 4000000 in
theorem b_L_holds_B361 {p : Program} {l : Launch} {e : Env} {s : State} {m : MethodId} {args : Array Value} {below : List Frame} {meth : Method} {c : Code} {A : Nat → Prop} {D : va_G} {cy : Nat → ClassId} {ad : (Nat → Nat) × (Nat → Nat)} {Q : State → Prop} (X : gK p s m args meth c A D cy ad cL_holds 17 RL) (hr : meth.sig.returnType = (some .boolean)) (hfl : l.stackTraces = false) {h0 t0 : Nat} {hs : Nat → Nat} {ta : TAd} (v0 : OBv) (w0 : Fn) (x1 : Int32) (x2 : Int32) (x4 : Int32) (x6 : Int32) (x7 : Int32) (x9 : Bool) (x10 : Int32) (x11 : Int32) (x12 : Int32) (z : Int32 × Int32) {q : (Int32 × Int32) ⊕ ((Int32))} (hf : f_L_holds_B361 v0 w0 x1 x2 x4 x6 x7 x9 x10 x11 x12 z = some q) (K1 : ∀ s' : Int32 × Int32, q = .inl s' → GW p l e rmL_holds s m args below meth c A D 17 397 2388 Q 361 [(0, .ref h0), (1, .int x1), (2, .int x2), (4, .int x4), (6, .int x6), (7, .int x7), (9, .int (b2i x9)), (10, .int x10), (11, .int x11), (12, .int x12), (13, .int s'.1), (14, .int s'.2)] [] [OB cy h0 hs ta v0, AI cy 12 t0 w0]) (K2 : ∀ e' : Int32, q = .inr (e') → GW p l e rmL_holds s m args below meth c A D 17 397 2388 Q 380 [(0, .ref h0), (1, .int x1), (2, .int x2), (4, .int x4), (6, .int x6), (7, .int x7), (9, .int (b2i x9)), (10, .int x10), (11, .int x11), (12, .int x12), (13, .int e')] [] [OB cy h0 hs ta v0, AI cy 12 t0 w0]) : GW p l e rmL_holds s m args below meth c A D 17 397 2388 Q 361 [(0, .ref h0), (1, .int x1), (2, .int x2), (4, .int x4), (6, .int x6), (7, .int x7), (9, .int (b2i x9)), (10, .int x10), (11, .int x11), (12, .int x12), (13, .int z.1), (14, .int z.2)] [] [OB cy h0 hs ta v0, AI cy 12 t0 w0] := by
  unfold f_L_holds_B361 at hf
  refine g_iload X dL_holds_361 11 rfl ?_
  refine g_iload X dL_holds_363 9 rfl ?_
  refine g_icmp_ge X 380 dL_holds_365 (by decide) (fun c1339 => ?_) (fun c1339 => ?_)
  · have hf := opos c1339 hf
    refine g_sub [0, 1, 2, 3, 4, 5, 6, 7, 8, 9, 10] (lv' := [(0, .ref h0), (1, .int x1), (2, .int x2), (4, .int x4), (6, .int x6), (7, .int x7), (9, .int (b2i x9)), (10, .int x10), (11, .int x11), (12, .int x12), (13, .int z.1)]) rfl ?_
    exact K2 (z.1) (Option.some.inj hf).symm
  · have hf := oneg c1339 hf
    refine g_iload X dL_holds_368 10 rfl ?_
    refine g_iconst X (3 : Int32) dL_holds_370 (by decide) ?_
    refine g_imul X dL_holds_371 ?_
    refine g_istore (lv' := [(0, .ref h0), (1, .int x1), (2, .int x2), (4, .int x4), (6, .int x6), (7, .int x7), (9, .int (b2i x9)), (10, .int x10), (11, .int x11), (12, .int x12), (13, .int (z.1 * (3 : Int32))), (14, .int z.2)]) X dL_holds_372 [1, 2, 3, 4, 5, 6, 7, 8, 9, 10, 0, 11] (Nat.le_of_ble_eq_true rfl) rfl ?_
    refine g_iinc (lv' := [(0, .ref h0), (1, .int x1), (2, .int x2), (4, .int x4), (6, .int x6), (7, .int x7), (9, .int (b2i x9)), (10, .int x10), (11, .int x11), (12, .int x12), (13, .int (z.1 * (3 : Int32))), (14, .int (z.2 + (1 : Int32)))]) (v := (1 : Int32)) X dL_holds_374 11 rfl (by decide) [1, 2, 3, 4, 5, 6, 7, 8, 9, 10, 11, 0] (Nat.le_of_ble_eq_true rfl) rfl ?_
    refine g_goto X 361 dL_holds_377 (by decide) ?_
    exact K1 ((z.1 * (3 : Int32)), (z.2 + (1 : Int32))) (Option.some.inj hf).symm
set_option maxRecDepth 100000 in
set_option maxHeartbeats 4000000 in
theorem w_L_holds_B361 {p : Program} {l : Launch} {e : Env} {s : State} {m : MethodId} {args : Array Value} {below : List Frame} {meth : Method} {c : Code} {A : Nat → Prop} {D : va_G} {cy : Nat → ClassId} {ad : (Nat → Nat) × (Nat → Nat)} {Q : State → Prop} (X : gK p s m args meth c A D cy ad cL_holds 17 RL) (hr : meth.sig.returnType = (some .boolean)) (hfl : l.stackTraces = false) {h0 t0 : Nat} {hs : Nat → Nat} {ta : TAd} (v0 : OBv) (w0 : Fn) (x1 : Int32) (x2 : Int32) (x4 : Int32) (x6 : Int32) (x7 : Int32) (x9 : Bool) (x10 : Int32) (x11 : Int32) (x12 : Int32) {n : Nat} {z : Int32 × Int32} {q : (Int32)} (hf : itl (f_L_holds_B361 v0 w0 x1 x2 x4 x6 x7 x9 x10 x11 x12) n z = some q) (K2 : GW p l e rmL_holds s m args below meth c A D 17 397 2388 Q 380 [(0, .ref h0), (1, .int x1), (2, .int x2), (4, .int x4), (6, .int x6), (7, .int x7), (9, .int (b2i x9)), (10, .int x10), (11, .int x11), (12, .int x12), (13, .int q)] [] [OB cy h0 hs ta v0, AI cy 12 t0 w0]) : GW p l e rmL_holds s m args below meth c A D 17 397 2388 Q 361 [(0, .ref h0), (1, .int x1), (2, .int x2), (4, .int x4), (6, .int x6), (7, .int x7), (9, .int (b2i x9)), (10, .int x10), (11, .int x11), (12, .int x12), (13, .int z.1), (14, .int z.2)] [] [OB cy h0 hs ta v0, AI cy 12 t0 w0] :=
  itl_ind (f := f_L_holds_B361 v0 w0 x1 x2 x4 x6 x7 x9 x10 x11 x12) (I := fun z => GW p l e rmL_holds s m args below meth c A D 17 397 2388 Q 361 [(0, .ref h0), (1, .int x1), (2, .int x2), (4, .int x4), (6, .int x6), (7, .int x7), (9, .int (b2i x9)), (10, .int x10), (11, .int x11), (12, .int x12), (13, .int z.1), (14, .int z.2)] [] [OB cy h0 hs ta v0, AI cy 12 t0 w0]) (J := (fun q => GW p l e rmL_holds s m args below meth c A D 17 397 2388 Q 380 [(0, .ref h0), (1, .int x1), (2, .int x2), (4, .int x4), (6, .int x6), (7, .int x7), (9, .int (b2i x9)), (10, .int x10), (11, .int x11), (12, .int x12), (13, .int q)] [] [OB cy h0 hs ta v0, AI cy 12 t0 w0])) (fun z x h k1 k2 => b_L_holds_B361 X hr hfl v0 w0 x1 x2 x4 x6 x7 x9 x10 x11 x12 z h (fun s' hs => k1 s' hs) (fun e' he => k2 e' he)) n z q hf K2
def f_L_holds_b521 (v0 : OBv) (w0 : Fn) (x14 : Int32) (x15 : Int32) (y0 : Bool) : Option (Bool × OBv) :=
  if (b2i y0) = 0 then some (false, v0) else if x15 = (-1 : Int32) then some (true, v0) else (f_O_call v0 (13 : Int32) x14 (0 : Int32) (0 : Int32)).bind (fun q1343 => (f_O_call q1343.2 (13 : Int32) x14 (1 : Int32) (0 : Int32)).bind (fun q1344 => (f_L_most q1344.2 q1343.1 q1344.1).bind (fun q1345 => if x15 = q1345.1 then some (true, q1345.2) else some (false, q1345.2))))
set_option maxRecDepth 100000 in
set_option maxHeartbeats 4000000 in
theorem j_L_holds_b521 {p : Program} {l : Launch} {e : Env} {s : State} {m : MethodId} {args : Array Value} {below : List Frame} {meth : Method} {c : Code} {A : Nat → Prop} {D : va_G} {cy : Nat → ClassId} {ad : (Nat → Nat) × (Nat → Nat)} (X : gK p s m args meth c A D cy ad cL_holds 17 RL) (hr : meth.sig.returnType = (some .boolean)) (hfl : l.stackTraces = false) {h0 t0 : Nat} {hs : Nat → Nat} {ta : TAd} (v0 : OBv) (w0 : Fn) (x14 : Int32) (x15 : Int32) (y0 : Bool) {q : Bool × OBv} (hf : f_L_holds_b521 v0 w0 x14 x15 y0 = some q) : GW p l e rmL_holds s m args below meth c A D 17 401 2412 (MQ below (cmQ D cy A (some (.int (b2i q.1))) ([OB cy h0 hs ta q.2] : List va_W).flatten) args s 413 2484 A) 521 [(0, .ref h0), (14, .int x14), (15, .int x15)] [.int (b2i y0)] [OB cy h0 hs ta v0, AI cy 12 t0 w0] := by
  unfold f_L_holds_b521 at hf
  refine g_istore (lv' := [(0, .ref h0), (9, .int (b2i y0)), (14, .int x14), (15, .int x15)]) X dL_holds_521 [1, 0, 2, 3] (Nat.le_of_ble_eq_true rfl) rfl ?_
  refine g_iload X dL_holds_523 1 rfl ?_
  refine g_if_eq X 567 dL_holds_525 (by decide) (fun c1348 => ?_) (fun c1348 => ?_)
  · have hf := opos c1348 hf
    refine g_widen (k := 413) (n := 2484) (Nat.le_of_ble_eq_true rfl) (Nat.le_of_ble_eq_true rfl) ?_
    refine g_iconst X (0 : Int32) dL_holds_567 (by decide) ?_
    refine g_drop (gs' := [OB cy h0 hs ta v0]) (gr := [AI cy 12 t0 w0]) rfl ?_
    have hf := Option.some.inj hf
    subst hf
    exact g_zret (b := false) X hr dL_holds_568
  · have hf := oneg c1348 hf
    refine g_iload X dL_holds_528 3 rfl ?_
    refine g_iconst X (-1 : Int32) dL_holds_530 (by decide) ?_
    refine g_icmp_eq X 563 dL_holds_531 (by decide) (fun c1347 => ?_) (fun c1347 => ?_)
    · have hf := opos c1347 hf
      refine g_widen (k := 413) (n := 2484) (Nat.le_of_ble_eq_true rfl) (Nat.le_of_ble_eq_true rfl) ?_
      refine g_iconst X (1 : Int32) dL_holds_563 (by decide) ?_
      refine g_goto X 568 dL_holds_564 (by decide) ?_
      refine g_drop (gs' := [OB cy h0 hs ta v0]) (gr := [AI cy 12 t0 w0]) rfl ?_
      have hf := Option.some.inj hf
      subst hf
      exact g_zret (b := true) X hr dL_holds_568
    · have hf := oneg c1347 hf
      refine g_iload X dL_holds_534 3 rfl ?_
      refine g_aload_n X dL_holds_536 0 rfl rfl ?_
      refine g_aload_n X dL_holds_537 0 rfl rfl ?_
      refine g_bipush X (13 : Int32) dL_holds_538 (by decide) ?_
      refine g_iload X dL_holds_540 2 rfl ?_
      refine g_iconst X (0 : Int32) dL_holds_542 (by decide) ?_
      refine g_iconst X (0 : Int32) dL_holds_543 (by decide) ?_
      obtain ⟨q1343, hq1343, hf⟩ := obind hf
      refine g_callS (gs' := [OB cy h0 hs ta q1343.2, AI cy 12 t0 w0]) (rest := [.ref h0, .int x15]) X dL_holds_544 (o_L_call l D cy ad h0 hs ta v0 (13 : Int32) x14 (0 : Int32) (0 : Int32) hfl hq1343) mf_L_call ms_L_call lkm_L_144 ⟨(Nat.le_of_ble_eq_true rfl), (Nat.le_of_ble_eq_true rfl), (Nat.le_of_ble_eq_true rfl), (Nat.le_of_ble_eq_true rfl)⟩ [0, 1] _ (by decide : [0, 1].Perm (List.range 2)) rfl (by decide : [0, 1].Perm (List.range 2)) rfl (Nat.le_of_ble_eq_true rfl) rfl ?_
      refine g_cs (c' := 403) (s' := 2424) rfl rfl ?_
      refine g_aload_n X dL_holds_547 0 rfl rfl ?_
      refine g_bipush X (13 : Int32) dL_holds_548 (by decide) ?_
      refine g_iload X dL_holds_550 2 rfl ?_
      refine g_iconst X (1 : Int32) dL_holds_552 (by decide) ?_
      refine g_iconst X (0 : Int32) dL_holds_553 (by decide) ?_
      obtain ⟨q1344, hq1344, hf⟩ := obind hf
      refine g_callS (gs' := [OB cy h0 hs ta q1344.2, AI cy 12 t0 w0]) (rest := [.int q1343.1, .ref h0, .int x15]) X dL_holds_554 (o_L_call l D cy ad h0 hs ta q1343.2 (13 : Int32) x14 (1 : Int32) (0 : Int32) hfl hq1344) mf_L_call ms_L_call lkm_L_144 ⟨(Nat.le_of_ble_eq_true rfl), (Nat.le_of_ble_eq_true rfl), (Nat.le_of_ble_eq_true rfl), (Nat.le_of_ble_eq_true rfl)⟩ [0, 1] _ (by decide : [0, 1].Perm (List.range 2)) rfl (by decide : [0, 1].Perm (List.range 2)) rfl (Nat.le_of_ble_eq_true rfl) rfl ?_
      refine g_cs (c' := 405) (s' := 2436) rfl rfl ?_
      obtain ⟨q1345, hq1345, hf⟩ := obind hf
      refine g_callS (gs' := [OB cy h0 hs ta q1345.2, AI cy 12 t0 w0]) (rest := [.int x15]) X dL_holds_557 (c_L_most l D cy ad h0 hs ta q1344.2 q1343.1 q1344.1 hfl hq1345) mf_L_most ms_L_most lkm_L_171 ⟨(Nat.le_of_ble_eq_true rfl), (Nat.le_of_ble_eq_true rfl), (Nat.le_of_ble_eq_true rfl), (Nat.le_of_ble_eq_true rfl)⟩ [0, 1] _ (by decide : [0, 1].Perm (List.range 2)) rfl (by decide : [0, 1].Perm (List.range 2)) rfl (Nat.le_of_ble_eq_true rfl) rfl ?_
      refine g_cs (c' := 413) (s' := 2484) rfl rfl ?_
      refine g_icmp_ne X 567 dL_holds_560 (by decide) (fun c1346 => ?_) (fun c1346 => ?_)
      · have hf := oneg c1346 hf
        refine g_iconst X (0 : Int32) dL_holds_567 (by decide) ?_
        refine g_drop (gs' := [OB cy h0 hs ta q1345.2]) (gr := [AI cy 12 t0 w0]) rfl ?_
        have hf := Option.some.inj hf
        subst hf
        exact g_zret (b := false) X hr dL_holds_568
      · have hf := opos c1346 hf
        refine g_iconst X (1 : Int32) dL_holds_563 (by decide) ?_
        refine g_goto X 568 dL_holds_564 (by decide) ?_
        refine g_drop (gs' := [OB cy h0 hs ta q1345.2]) (gr := [AI cy 12 t0 w0]) rfl ?_
        have hf := Option.some.inj hf
        subst hf
        exact g_zret (b := true) X hr dL_holds_568
def f_L_holds_b520 (v0 : OBv) (w0 : Fn) (x14 : Int32) (x15 : Int32) : Option (Bool × OBv) :=
  f_L_holds_b521 v0 w0 x14 x15 false
set_option maxRecDepth 100000 in
set_option maxHeartbeats 4000000 in
theorem j_L_holds_b520 {p : Program} {l : Launch} {e : Env} {s : State} {m : MethodId} {args : Array Value} {below : List Frame} {meth : Method} {c : Code} {A : Nat → Prop} {D : va_G} {cy : Nat → ClassId} {ad : (Nat → Nat) × (Nat → Nat)} (X : gK p s m args meth c A D cy ad cL_holds 17 RL) (hr : meth.sig.returnType = (some .boolean)) (hfl : l.stackTraces = false) {h0 t0 : Nat} {hs : Nat → Nat} {ta : TAd} (v0 : OBv) (w0 : Fn) (x14 : Int32) (x15 : Int32) {q : Bool × OBv} (hf : f_L_holds_b520 v0 w0 x14 x15 = some q) : GW p l e rmL_holds s m args below meth c A D 17 401 2412 (MQ below (cmQ D cy A (some (.int (b2i q.1))) ([OB cy h0 hs ta q.2] : List va_W).flatten) args s 413 2484 A) 520 [(0, .ref h0), (14, .int x14), (15, .int x15)] [] [OB cy h0 hs ta v0, AI cy 12 t0 w0] := by
  unfold f_L_holds_b520 at hf
  refine g_iconst X (0 : Int32) dL_holds_520 (by decide) ?_
  exact j_L_holds_b521 X hr hfl v0 w0 x14 x15 false hf
def f_L_holds_b516 (v0 : OBv) (w0 : Fn) (x14 : Int32) (x15 : Int32) : Option (Bool × OBv) :=
  f_L_holds_b521 v0 w0 x14 x15 true
set_option maxRecDepth 100000 in
set_option maxHeartbeats 4000000 in
theorem j_L_holds_b516 {p : Program} {l : Launch} {e : Env} {s : State} {m : MethodId} {args : Array Value} {below : List Frame} {meth : Method} {c : Code} {A : Nat → Prop} {D : va_G} {cy : Nat → ClassId} {ad : (Nat → Nat) × (Nat → Nat)} (X : gK p s m args meth c A D cy ad cL_holds 17 RL) (hr : meth.sig.returnType = (some .boolean)) (hfl : l.stackTraces = false) {h0 t0 : Nat} {hs : Nat → Nat} {ta : TAd} (v0 : OBv) (w0 : Fn) (x14 : Int32) (x15 : Int32) {q : Bool × OBv} (hf : f_L_holds_b516 v0 w0 x14 x15 = some q) : GW p l e rmL_holds s m args below meth c A D 17 401 2412 (MQ below (cmQ D cy A (some (.int (b2i q.1))) ([OB cy h0 hs ta q.2] : List va_W).flatten) args s 413 2484 A) 516 [(0, .ref h0), (14, .int x14), (15, .int x15)] [] [OB cy h0 hs ta v0, AI cy 12 t0 w0] := by
  unfold f_L_holds_b516 at hf
  refine g_iconst X (1 : Int32) dL_holds_516 (by decide) ?_
  refine g_goto X 521 dL_holds_517 (by decide) ?_
  exact j_L_holds_b521 X hr hfl v0 w0 x14 x15 true hf
def f_L_holds_b501 (v0 : OBv) (w0 : Fn) (x4 : Int32) (x14 : Int32) (x15 : Int32) (x16 : Int32) (y0 : Bool) (y1 : Bool) : Option (Bool × OBv) :=
  if (b2i y1) = (b2i y0) then if (1 : Int32) < x4 then f_L_holds_b516 v0 w0 x14 x15 else if x16 = (-1 : Int32) then f_L_holds_b516 v0 w0 x14 x15 else f_L_holds_b520 v0 w0 x14 x15 else f_L_holds_b520 v0 w0 x14 x15
set_option maxRecDepth 100000 in
set_option maxHeartbeats 4000000 in
theorem j_L_holds_b501 {p : Program} {l : Launch} {e : Env} {s : State} {m : MethodId} {args : Array Value} {below : List Frame} {meth : Method} {c : Code} {A : Nat → Prop} {D : va_G} {cy : Nat → ClassId} {ad : (Nat → Nat) × (Nat → Nat)} (X : gK p s m args meth c A D cy ad cL_holds 17 RL) (hr : meth.sig.returnType = (some .boolean)) (hfl : l.stackTraces = false) {h0 t0 : Nat} {hs : Nat → Nat} {ta : TAd} (v0 : OBv) (w0 : Fn) (x4 : Int32) (x14 : Int32) (x15 : Int32) (x16 : Int32) (y0 : Bool) (y1 : Bool) {q : Bool × OBv} (hf : f_L_holds_b501 v0 w0 x4 x14 x15 x16 y0 y1 = some q) : GW p l e rmL_holds s m args below meth c A D 17 401 2412 (MQ below (cmQ D cy A (some (.int (b2i q.1))) ([OB cy h0 hs ta q.2] : List va_W).flatten) args s 413 2484 A) 501 [(0, .ref h0), (4, .int x4), (14, .int x14), (15, .int x15), (16, .int x16)] [.int (b2i y0), .int (b2i y1)] [OB cy h0 hs ta v0, AI cy 12 t0 w0] := by
  unfold f_L_holds_b501 at hf
  refine g_icmp_ne X 520 dL_holds_501 (by decide) (fun c1353 => ?_) (fun c1353 => ?_)
  · have hf := oneg c1353 hf
    refine g_sub [0, 2, 3] (lv' := [(0, .ref h0), (14, .int x14), (15, .int x15)]) rfl ?_
    exact j_L_holds_b520 X hr hfl v0 w0 x14 x15 hf
  · have hf := opos c1353 hf
    refine g_iload X dL_holds_504 1 rfl ?_
    refine g_iconst X (1 : Int32) dL_holds_506 (by decide) ?_
    refine g_icmp_gt X 516 dL_holds_507 (by decide) (fun c1352 => ?_) (fun c1352 => ?_)
    · have hf := opos c1352 hf
      refine g_sub [0, 2, 3] (lv' := [(0, .ref h0), (14, .int x14), (15, .int x15)]) rfl ?_
      exact j_L_holds_b516 X hr hfl v0 w0 x14 x15 hf
    · have hf := oneg c1352 hf
      refine g_iload X dL_holds_510 4 rfl ?_
      refine g_iconst X (-1 : Int32) dL_holds_512 (by decide) ?_
      refine g_icmp_ne X 520 dL_holds_513 (by decide) (fun c1351 => ?_) (fun c1351 => ?_)
      · have hf := oneg c1351 hf
        refine g_sub [0, 2, 3] (lv' := [(0, .ref h0), (14, .int x14), (15, .int x15)]) rfl ?_
        exact j_L_holds_b520 X hr hfl v0 w0 x14 x15 hf
      · have hf := opos c1351 hf
        refine g_sub [0, 2, 3] (lv' := [(0, .ref h0), (14, .int x14), (15, .int x15)]) rfl ?_
        exact j_L_holds_b516 X hr hfl v0 w0 x14 x15 hf
def f_L_holds_b488 (v0 : OBv) (w0 : Fn) (x2 : Int32) (x4 : Int32) (x14 : Int32) (x15 : Int32) (x16 : Int32) (y0 : Bool) : Option (Bool × OBv) :=
  if ((2 : Int32) * x14) ≤ x2 then f_L_holds_b501 v0 w0 x4 x14 x15 x16 false y0 else f_L_holds_b501 v0 w0 x4 x14 x15 x16 true y0
set_option maxRecDepth 100000 in
set_option maxHeartbeats 4000000 in
theorem j_L_holds_b488 {p : Program} {l : Launch} {e : Env} {s : State} {m : MethodId} {args : Array Value} {below : List Frame} {meth : Method} {c : Code} {A : Nat → Prop} {D : va_G} {cy : Nat → ClassId} {ad : (Nat → Nat) × (Nat → Nat)} (X : gK p s m args meth c A D cy ad cL_holds 17 RL) (hr : meth.sig.returnType = (some .boolean)) (hfl : l.stackTraces = false) {h0 t0 : Nat} {hs : Nat → Nat} {ta : TAd} (v0 : OBv) (w0 : Fn) (x2 : Int32) (x4 : Int32) (x14 : Int32) (x15 : Int32) (x16 : Int32) (y0 : Bool) {q : Bool × OBv} (hf : f_L_holds_b488 v0 w0 x2 x4 x14 x15 x16 y0 = some q) : GW p l e rmL_holds s m args below meth c A D 17 401 2412 (MQ below (cmQ D cy A (some (.int (b2i q.1))) ([OB cy h0 hs ta q.2] : List va_W).flatten) args s 413 2484 A) 488 [(0, .ref h0), (2, .int x2), (4, .int x4), (14, .int x14), (15, .int x15), (16, .int x16)] [.int (b2i y0)] [OB cy h0 hs ta v0, AI cy 12 t0 w0] := by
  unfold f_L_holds_b488 at hf
  refine g_iconst X (2 : Int32) dL_holds_488 (by decide) ?_
  refine g_iload X dL_holds_489 3 rfl ?_
  refine g_imul X dL_holds_491 ?_
  refine g_iload_n X dL_holds_492 1 rfl rfl ?_
  refine g_icmp_le X 500 dL_holds_493 (by decide) (fun c1354 => ?_) (fun c1354 => ?_)
  · have hf := opos c1354 hf
    refine g_iconst X (0 : Int32) dL_holds_500 (by decide) ?_
    refine g_sub [0, 2, 3, 4, 5] (lv' := [(0, .ref h0), (4, .int x4), (14, .int x14), (15, .int x15), (16, .int x16)]) rfl ?_
    exact j_L_holds_b501 X hr hfl v0 w0 x4 x14 x15 x16 false y0 hf
  · have hf := oneg c1354 hf
    refine g_iconst X (1 : Int32) dL_holds_496 (by decide) ?_
    refine g_goto X 501 dL_holds_497 (by decide) ?_
    refine g_sub [0, 2, 3, 4, 5] (lv' := [(0, .ref h0), (4, .int x4), (14, .int x14), (15, .int x15), (16, .int x16)]) rfl ?_
    exact j_L_holds_b501 X hr hfl v0 w0 x4 x14 x15 x16 true y0 hf
def f_L_holds_b477 (v0 : OBv) (w0 : Fn) (x2 : Int32) (x4 : Int32) (x14 : Int32) (x15 : Int32) (x16 : Int32) : Option (Bool × OBv) :=
  if x15 = (-1 : Int32) then f_L_holds_b488 v0 w0 x2 x4 x14 x15 x16 true else f_L_holds_b488 v0 w0 x2 x4 x14 x15 x16 false
set_option maxRecDepth 100000 in
set_option maxHeartbeats 4000000 in
theorem j_L_holds_b477 {p : Program} {l : Launch} {e : Env} {s : State} {m : MethodId} {args : Array Value} {below : List Frame} {meth : Method} {c : Code} {A : Nat → Prop} {D : va_G} {cy : Nat → ClassId} {ad : (Nat → Nat) × (Nat → Nat)} (X : gK p s m args meth c A D cy ad cL_holds 17 RL) (hr : meth.sig.returnType = (some .boolean)) (hfl : l.stackTraces = false) {h0 t0 : Nat} {hs : Nat → Nat} {ta : TAd} (v0 : OBv) (w0 : Fn) (x2 : Int32) (x4 : Int32) (x14 : Int32) (x15 : Int32) (x16 : Int32) {q : Bool × OBv} (hf : f_L_holds_b477 v0 w0 x2 x4 x14 x15 x16 = some q) : GW p l e rmL_holds s m args below meth c A D 17 401 2412 (MQ below (cmQ D cy A (some (.int (b2i q.1))) ([OB cy h0 hs ta q.2] : List va_W).flatten) args s 413 2484 A) 477 [(0, .ref h0), (2, .int x2), (4, .int x4), (14, .int x14), (15, .int x15), (16, .int x16)] [] [OB cy h0 hs ta v0, AI cy 12 t0 w0] := by
  unfold f_L_holds_b477 at hf
  refine g_iload X dL_holds_477 4 rfl ?_
  refine g_iconst X (-1 : Int32) dL_holds_479 (by decide) ?_
  refine g_icmp_ne X 487 dL_holds_480 (by decide) (fun c1355 => ?_) (fun c1355 => ?_)
  · have hf := oneg c1355 hf
    refine g_iconst X (0 : Int32) dL_holds_487 (by decide) ?_
    exact j_L_holds_b488 X hr hfl v0 w0 x2 x4 x14 x15 x16 false hf
  · have hf := opos c1355 hf
    refine g_iconst X (1 : Int32) dL_holds_483 (by decide) ?_
    refine g_goto X 488 dL_holds_484 (by decide) ?_
    exact j_L_holds_b488 X hr hfl v0 w0 x2 x4 x14 x15 x16 true hf
def f_L_holds_b349 (v0 : OBv) (w0 : Fn) (x1 : Int32) (x2 : Int32) (x4 : Int32) (x6 : Int32) (x7 : Int32) (x9 : Bool) (x10 : Int32) (x11 : Int32) : Option (Bool × OBv) :=
  (f_X7_needs v0.2.1 v0.2.2.1).bind (fun q1338 => (itl (f_L_holds_B361 v0 w0 x1 x2 x4 x6 x7 x9 x10 x11 q1338) FU ((1 : Int32), (0 : Int32))).bind (fun q1340 => (f_O_call v0 (13 : Int32) ((1 : Int32) + (x1 - x1 / (2 : Int32) * (2 : Int32))) (2 : Int32) (0 : Int32)).bind (fun q1341 => (f_X7_sharpest q1341.2.2.1 q1341.2.2.2.1 q1341.2.2.2.2.1 q1341.2.2.2.2.2.2.2.2.2.2.2.2.2.2.2.2.1).bind (fun q1342 => if (b2i x9) = 0 then f_L_holds_b520 (q1341.2.1, q1341.2.2.1, q1341.2.2.2.1, q1342.2.1, q1341.2.2.2.2.2.1, q1341.2.2.2.2.2.2.1, q1341.2.2.2.2.2.2.2.1, q1341.2.2.2.2.2.2.2.2.1, q1341.2.2.2.2.2.2.2.2.2.1, q1341.2.2.2.2.2.2.2.2.2.2.1, q1341.2.2.2.2.2.2.2.2.2.2.2.1, q1341.2.2.2.2.2.2.2.2.2.2.2.2.1, q1341.2.2.2.2.2.2.2.2.2.2.2.2.2.1, q1341.2.2.2.2.2.2.2.2.2.2.2.2.2.2.1, q1341.2.2.2.2.2.2.2.2.2.2.2.2.2.2.2.1, q1342.2.2, q1341.2.2.2.2.2.2.2.2.2.2.2.2.2.2.2.2.2.1, q1341.2.2.2.2.2.2.2.2.2.2.2.2.2.2.2.2.2.2) w0 ((1 : Int32) + (x1 - x1 / (2 : Int32) * (2 : Int32))) q1341.1 else if x6 = x4 then (f_X7_pans q1341.2.2.1 q1341.2.2.2.1).bind (fun q1349 => if q1349 = x7 then if x10 = x4 then (f_O_call (q1341.2.1, q1341.2.2.1, q1341.2.2.2.1, q1342.2.1, q1341.2.2.2.2.2.1, q1341.2.2.2.2.2.2.1, q1341.2.2.2.2.2.2.2.1, q1341.2.2.2.2.2.2.2.2.1, q1341.2.2.2.2.2.2.2.2.2.1, q1341.2.2.2.2.2.2.2.2.2.2.1, q1341.2.2.2.2.2.2.2.2.2.2.2.1, q1341.2.2.2.2.2.2.2.2.2.2.2.2.1, q1341.2.2.2.2.2.2.2.2.2.2.2.2.2.1, q1341.2.2.2.2.2.2.2.2.2.2.2.2.2.2.1, q1341.2.2.2.2.2.2.2.2.2.2.2.2.2.2.2.1, q1342.2.2, q1341.2.2.2.2.2.2.2.2.2.2.2.2.2.2.2.2.2.1, q1341.2.2.2.2.2.2.2.2.2.2.2.2.2.2.2.2.2.2) (2 : Int32) (6 : Int32) (0 : Int32) (0 : Int32)).bind (fun q1350 => if q1350.1 = x11 then if q1340 < x4 then f_L_holds_b520 q1350.2 w0 ((1 : Int32) + (x1 - x1 / (2 : Int32) * (2 : Int32))) q1341.1 else if q1338 = 0 then if x4 = (1 : Int32) then f_L_holds_b477 q1350.2 w0 x2 x4 ((1 : Int32) + (x1 - x1 / (2 : Int32) * (2 : Int32))) q1341.1 q1342.1 else f_L_holds_b520 q1350.2 w0 ((1 : Int32) + (x1 - x1 / (2 : Int32) * (2 : Int32))) q1341.1 else if x4 ≤ (q1340 / (3 : Int32)) then f_L_holds_b520 q1350.2 w0 ((1 : Int32) + (x1 - x1 / (2 : Int32) * (2 : Int32))) q1341.1 else f_L_holds_b477 q1350.2 w0 x2 x4 ((1 : Int32) + (x1 - x1 / (2 : Int32) * (2 : Int32))) q1341.1 q1342.1 else f_L_holds_b520 q1350.2 w0 ((1 : Int32) + (x1 - x1 / (2 : Int32) * (2 : Int32))) q1341.1) else f_L_holds_b520 (q1341.2.1, q1341.2.2.1, q1341.2.2.2.1, q1342.2.1, q1341.2.2.2.2.2.1, q1341.2.2.2.2.2.2.1, q1341.2.2.2.2.2.2.2.1, q1341.2.2.2.2.2.2.2.2.1, q1341.2.2.2.2.2.2.2.2.2.1, q1341.2.2.2.2.2.2.2.2.2.2.1, q1341.2.2.2.2.2.2.2.2.2.2.2.1, q1341.2.2.2.2.2.2.2.2.2.2.2.2.1, q1341.2.2.2.2.2.2.2.2.2.2.2.2.2.1, q1341.2.2.2.2.2.2.2.2.2.2.2.2.2.2.1, q1341.2.2.2.2.2.2.2.2.2.2.2.2.2.2.2.1, q1342.2.2, q1341.2.2.2.2.2.2.2.2.2.2.2.2.2.2.2.2.2.1, q1341.2.2.2.2.2.2.2.2.2.2.2.2.2.2.2.2.2.2) w0 ((1 : Int32) + (x1 - x1 / (2 : Int32) * (2 : Int32))) q1341.1 else f_L_holds_b520 (q1341.2.1, q1341.2.2.1, q1341.2.2.2.1, q1342.2.1, q1341.2.2.2.2.2.1, q1341.2.2.2.2.2.2.1, q1341.2.2.2.2.2.2.2.1, q1341.2.2.2.2.2.2.2.2.1, q1341.2.2.2.2.2.2.2.2.2.1, q1341.2.2.2.2.2.2.2.2.2.2.1, q1341.2.2.2.2.2.2.2.2.2.2.2.1, q1341.2.2.2.2.2.2.2.2.2.2.2.2.1, q1341.2.2.2.2.2.2.2.2.2.2.2.2.2.1, q1341.2.2.2.2.2.2.2.2.2.2.2.2.2.2.1, q1341.2.2.2.2.2.2.2.2.2.2.2.2.2.2.2.1, q1342.2.2, q1341.2.2.2.2.2.2.2.2.2.2.2.2.2.2.2.2.2.1, q1341.2.2.2.2.2.2.2.2.2.2.2.2.2.2.2.2.2.2) w0 ((1 : Int32) + (x1 - x1 / (2 : Int32) * (2 : Int32))) q1341.1) else f_L_holds_b520 (q1341.2.1, q1341.2.2.1, q1341.2.2.2.1, q1342.2.1, q1341.2.2.2.2.2.1, q1341.2.2.2.2.2.2.1, q1341.2.2.2.2.2.2.2.1, q1341.2.2.2.2.2.2.2.2.1, q1341.2.2.2.2.2.2.2.2.2.1, q1341.2.2.2.2.2.2.2.2.2.2.1, q1341.2.2.2.2.2.2.2.2.2.2.2.1, q1341.2.2.2.2.2.2.2.2.2.2.2.2.1, q1341.2.2.2.2.2.2.2.2.2.2.2.2.2.1, q1341.2.2.2.2.2.2.2.2.2.2.2.2.2.2.1, q1341.2.2.2.2.2.2.2.2.2.2.2.2.2.2.2.1, q1342.2.2, q1341.2.2.2.2.2.2.2.2.2.2.2.2.2.2.2.2.2.1, q1341.2.2.2.2.2.2.2.2.2.2.2.2.2.2.2.2.2.2) w0 ((1 : Int32) + (x1 - x1 / (2 : Int32) * (2 : Int32))) q1341.1))))
set_option maxRecDepth 100000 in
set_option maxHeartbeats 4000000 in
theorem j_L_holds_b349 {p : Program} {l : Launch} {e : Env} {s : State} {m : MethodId} {args : Array Value} {below : List Frame} {meth : Method} {c : Code} {A : Nat → Prop} {D : va_G} {cy : Nat → ClassId} {ad : (Nat → Nat) × (Nat → Nat)} (X : gK p s m args meth c A D cy ad cL_holds 17 RL) (hr : meth.sig.returnType = (some .boolean)) (hfl : l.stackTraces = false) {h0 t0 : Nat} {hs : Nat → Nat} {ta : TAd} (v0 : OBv) (w0 : Fn) (x1 : Int32) (x2 : Int32) (x4 : Int32) (x6 : Int32) (x7 : Int32) (x9 : Bool) (x10 : Int32) (x11 : Int32) {q : Bool × OBv} (hf : f_L_holds_b349 v0 w0 x1 x2 x4 x6 x7 x9 x10 x11 = some q) : GW p l e rmL_holds s m args below meth c A D 17 397 2388 (MQ below (cmQ D cy A (some (.int (b2i q.1))) ([OB cy h0 hs ta q.2] : List va_W).flatten) args s 413 2484 A) 349 [(0, .ref h0), (1, .int x1), (2, .int x2), (4, .int x4), (6, .int x6), (7, .int x7), (9, .int (b2i x9)), (10, .int x10), (11, .int x11)] [] [OB cy h0 hs ta v0, AI cy 12 t0 w0] := by
  unfold f_L_holds_b349 at hf
  refine g_aload_n X dL_holds_349 0 rfl rfl ?_
  obtain ⟨q1338, hq1338, hf⟩ := obind hf
  refine g_regroup (gs' := [FP h0 (hs 1) (hs 2) (hs 3) (hs 4) (hs 5) (hs 6) (hs 7) (hs 8) (hs 9), TX cy (hs 1) (hs 10) v0.1, TB cy (hs 2) (hs 11) (hs 12) (hs 13) v0.2.1, SU cy (hs 12) (hs 14) v0.2.2.1, SC (hs 13) v0.2.2.2.1, TB cy (hs 3) (hs 15) (hs 16) (hs 17) v0.2.2.2.2.1, SU cy (hs 16) (hs 18) v0.2.2.2.2.2.1, SC (hs 17) v0.2.2.2.2.2.2.1, HI (hs 4) (hs 19) v0.2.2.2.2.2.2.2.1, HR cy (hs 19) ta v0.2.2.2.2.2.2.2.2.1, SL (hs 5) (hs 20) v0.2.2.2.2.2.2.2.2.2.1, TB cy (hs 20) (hs 21) (hs 22) (hs 23) v0.2.2.2.2.2.2.2.2.2.2.1, SU cy (hs 22) (hs 24) v0.2.2.2.2.2.2.2.2.2.2.2.1, SL (hs 6) (hs 25) v0.2.2.2.2.2.2.2.2.2.2.2.2.1, TB cy (hs 25) (hs 26) (hs 27) (hs 28) v0.2.2.2.2.2.2.2.2.2.2.2.2.2.1, SU cy (hs 27) (hs 29) v0.2.2.2.2.2.2.2.2.2.2.2.2.2.2.1, TA (hs 7) v0.2.2.2.2.2.2.2.2.2.2.2.2.2.2.2.1, AI cy 12 (hs 8) v0.2.2.2.2.2.2.2.2.2.2.2.2.2.2.2.2.1, AI cy 66 (hs 9) v0.2.2.2.2.2.2.2.2.2.2.2.2.2.2.2.2.2, AI cy 12 t0 w0]) (ob_split (pre := []) (g := [FP h0 (hs 1) (hs 2) (hs 3) (hs 4) (hs 5) (hs 6) (hs 7) (hs 8) (hs 9), TX cy (hs 1) (hs 10) v0.1, TB cy (hs 2) (hs 11) (hs 12) (hs 13) v0.2.1, SU cy (hs 12) (hs 14) v0.2.2.1, SC (hs 13) v0.2.2.2.1, TB cy (hs 3) (hs 15) (hs 16) (hs 17) v0.2.2.2.2.1, SU cy (hs 16) (hs 18) v0.2.2.2.2.2.1, SC (hs 17) v0.2.2.2.2.2.2.1, HI (hs 4) (hs 19) v0.2.2.2.2.2.2.2.1, HR cy (hs 19) ta v0.2.2.2.2.2.2.2.2.1, SL (hs 5) (hs 20) v0.2.2.2.2.2.2.2.2.2.1, TB cy (hs 20) (hs 21) (hs 22) (hs 23) v0.2.2.2.2.2.2.2.2.2.2.1, SU cy (hs 22) (hs 24) v0.2.2.2.2.2.2.2.2.2.2.2.1, SL (hs 6) (hs 25) v0.2.2.2.2.2.2.2.2.2.2.2.2.1, TB cy (hs 25) (hs 26) (hs 27) (hs 28) v0.2.2.2.2.2.2.2.2.2.2.2.2.2.1, SU cy (hs 27) (hs 29) v0.2.2.2.2.2.2.2.2.2.2.2.2.2.2.1, TA (hs 7) v0.2.2.2.2.2.2.2.2.2.2.2.2.2.2.2.1, AI cy 12 (hs 8) v0.2.2.2.2.2.2.2.2.2.2.2.2.2.2.2.2.1, AI cy 66 (hs 9) v0.2.2.2.2.2.2.2.2.2.2.2.2.2.2.2.2.2]) (r := [AI cy 12 t0 w0])) ?_
  refine g_callV (gs' := [FP h0 (hs 1) (hs 2) (hs 3) (hs 4) (hs 5) (hs 6) (hs 7) (hs 8) (hs 9), TX cy (hs 1) (hs 10) v0.1, TB cy (hs 2) (hs 11) (hs 12) (hs 13) v0.2.1, SU cy (hs 12) (hs 14) v0.2.2.1, SC (hs 13) v0.2.2.2.1, TB cy (hs 3) (hs 15) (hs 16) (hs 17) v0.2.2.2.2.1, SU cy (hs 16) (hs 18) v0.2.2.2.2.2.1, SC (hs 17) v0.2.2.2.2.2.2.1, HI (hs 4) (hs 19) v0.2.2.2.2.2.2.2.1, HR cy (hs 19) ta v0.2.2.2.2.2.2.2.2.1, SL (hs 5) (hs 20) v0.2.2.2.2.2.2.2.2.2.1, TB cy (hs 20) (hs 21) (hs 22) (hs 23) v0.2.2.2.2.2.2.2.2.2.2.1, SU cy (hs 22) (hs 24) v0.2.2.2.2.2.2.2.2.2.2.2.1, SL (hs 6) (hs 25) v0.2.2.2.2.2.2.2.2.2.2.2.2.1, TB cy (hs 25) (hs 26) (hs 27) (hs 28) v0.2.2.2.2.2.2.2.2.2.2.2.2.2.1, SU cy (hs 27) (hs 29) v0.2.2.2.2.2.2.2.2.2.2.2.2.2.2.1, TA (hs 7) v0.2.2.2.2.2.2.2.2.2.2.2.2.2.2.2.1, AI cy 12 (hs 8) v0.2.2.2.2.2.2.2.2.2.2.2.2.2.2.2.2.1, AI cy 66 (hs 9) v0.2.2.2.2.2.2.2.2.2.2.2.2.2.2.2.2.2, AI cy 12 t0 w0]) (rest := []) X dL_holds_350 (c_X7_needs l D cy ad h0 (hs 1) (hs 2) (hs 3) (hs 4) (hs 5) (hs 6) (hs 7) (hs 8) (hs 9) (hs 11) (hs 12) (hs 13) (hs 14) v0.2.1 v0.2.2.1 hq1338) mf_X7_needs mv_X7_needs lkm_L_162 ⟨(Nat.le_of_ble_eq_true rfl), (Nat.le_of_ble_eq_true rfl), (Nat.le_of_ble_eq_true rfl), (Nat.le_of_ble_eq_true rfl)⟩ 0 0 rfl rfl rfl rfl [0, 2, 3, 1, 4, 5, 6, 7, 8, 9, 10, 11, 12, 13, 14, 15, 16, 17, 18, 19] _ (by decide : [0, 2, 3, 1, 4, 5, 6, 7, 8, 9, 10, 11, 12, 13, 14, 15, 16, 17, 18, 19].Perm (List.range 20)) rfl (by decide : [0, 2, 3, 1, 4, 5, 6, 7, 8, 9, 10, 11, 12, 13, 14, 15, 16, 17, 18, 19].Perm (List.range 20)) rfl (Nat.le_of_ble_eq_true rfl) rfl ?_
  refine g_regroup (gs' := [OB cy h0 hs ta v0, AI cy 12 t0 w0]) (ob_split (pre := []) (g := [FP h0 (hs 1) (hs 2) (hs 3) (hs 4) (hs 5) (hs 6) (hs 7) (hs 8) (hs 9), TX cy (hs 1) (hs 10) v0.1, TB cy (hs 2) (hs 11) (hs 12) (hs 13) v0.2.1, SU cy (hs 12) (hs 14) v0.2.2.1, SC (hs 13) v0.2.2.2.1, TB cy (hs 3) (hs 15) (hs 16) (hs 17) v0.2.2.2.2.1, SU cy (hs 16) (hs 18) v0.2.2.2.2.2.1, SC (hs 17) v0.2.2.2.2.2.2.1, HI (hs 4) (hs 19) v0.2.2.2.2.2.2.2.1, HR cy (hs 19) ta v0.2.2.2.2.2.2.2.2.1, SL (hs 5) (hs 20) v0.2.2.2.2.2.2.2.2.2.1, TB cy (hs 20) (hs 21) (hs 22) (hs 23) v0.2.2.2.2.2.2.2.2.2.2.1, SU cy (hs 22) (hs 24) v0.2.2.2.2.2.2.2.2.2.2.2.1, SL (hs 6) (hs 25) v0.2.2.2.2.2.2.2.2.2.2.2.2.1, TB cy (hs 25) (hs 26) (hs 27) (hs 28) v0.2.2.2.2.2.2.2.2.2.2.2.2.2.1, SU cy (hs 27) (hs 29) v0.2.2.2.2.2.2.2.2.2.2.2.2.2.2.1, TA (hs 7) v0.2.2.2.2.2.2.2.2.2.2.2.2.2.2.2.1, AI cy 12 (hs 8) v0.2.2.2.2.2.2.2.2.2.2.2.2.2.2.2.2.1, AI cy 66 (hs 9) v0.2.2.2.2.2.2.2.2.2.2.2.2.2.2.2.2.2]) (r := [AI cy 12 t0 w0])).symm ?_
  refine g_istore (lv' := [(0, .ref h0), (1, .int x1), (2, .int x2), (4, .int x4), (6, .int x6), (7, .int x7), (9, .int (b2i x9)), (10, .int x10), (11, .int x11), (12, .int q1338)]) X dL_holds_353 [1, 2, 3, 4, 5, 6, 7, 8, 9, 0] (Nat.le_of_ble_eq_true rfl) rfl ?_
  refine g_iconst X (1 : Int32) dL_holds_355 (by decide) ?_
  refine g_istore (lv' := [(0, .ref h0), (1, .int x1), (2, .int x2), (4, .int x4), (6, .int x6), (7, .int x7), (9, .int (b2i x9)), (10, .int x10), (11, .int x11), (12, .int q1338), (13, .int (1 : Int32))]) X dL_holds_356 [1, 2, 3, 4, 5, 6, 7, 8, 9, 10, 0] (Nat.le_of_ble_eq_true rfl) rfl ?_
  refine g_iconst X (0 : Int32) dL_holds_358 (by decide) ?_
  refine g_istore (lv' := [(0, .ref h0), (1, .int x1), (2, .int x2), (4, .int x4), (6, .int x6), (7, .int x7), (9, .int (b2i x9)), (10, .int x10), (11, .int x11), (12, .int q1338), (13, .int (1 : Int32)), (14, .int (0 : Int32))]) X dL_holds_359 [1, 2, 3, 4, 5, 6, 7, 8, 9, 10, 11, 0] (Nat.le_of_ble_eq_true rfl) rfl ?_
  obtain ⟨q1340, hq1340, hf⟩ := obind hf
  refine w_L_holds_B361 X hr hfl v0 w0 x1 x2 x4 x6 x7 x9 x10 x11 q1338 hq1340 ?_
  refine g_iconst X (1 : Int32) dL_holds_380 (by decide) ?_
  refine g_iload_n X dL_holds_381 1 rfl rfl ?_
  refine g_iconst X (2 : Int32) dL_holds_382 (by decide) ?_
  refine g_irem X dL_holds_383 (by decide) ?_
  refine g_iadd X dL_holds_384 ?_
  refine g_istore (lv' := [(0, .ref h0), (1, .int x1), (2, .int x2), (4, .int x4), (6, .int x6), (7, .int x7), (9, .int (b2i x9)), (10, .int x10), (11, .int x11), (12, .int q1338), (13, .int q1340), (14, .int ((1 : Int32) + (x1 - x1 / (2 : Int32) * (2 : Int32))))]) X dL_holds_385 [1, 2, 3, 4, 5, 6, 7, 8, 9, 10, 11, 0] (Nat.le_of_ble_eq_true rfl) rfl ?_
  refine g_aload_n X dL_holds_387 0 rfl rfl ?_
  refine g_bipush X (13 : Int32) dL_holds_388 (by decide) ?_
  refine g_iload X dL_holds_390 11 rfl ?_
  refine g_iconst X (2 : Int32) dL_holds_392 (by decide) ?_
  refine g_iconst X (0 : Int32) dL_holds_393 (by decide) ?_
  obtain ⟨q1341, hq1341, hf⟩ := obind hf
  refine g_callS (gs' := [OB cy h0 hs ta q1341.2, AI cy 12 t0 w0]) (rest := []) X dL_holds_394 (o_L_call l D cy ad h0 hs ta v0 (13 : Int32) ((1 : Int32) + (x1 - x1 / (2 : Int32) * (2 : Int32))) (2 : Int32) (0 : Int32) hfl hq1341) mf_L_call ms_L_call lkm_L_144 ⟨(Nat.le_of_ble_eq_true rfl), (Nat.le_of_ble_eq_true rfl), (Nat.le_of_ble_eq_true rfl), (Nat.le_of_ble_eq_true rfl)⟩ [0, 1] _ (by decide : [0, 1].Perm (List.range 2)) rfl (by decide : [0, 1].Perm (List.range 2)) rfl (Nat.le_of_ble_eq_true rfl) rfl ?_
  refine g_cs (c' := 399) (s' := 2400) rfl rfl ?_
  refine g_istore (lv' := [(0, .ref h0), (1, .int x1), (2, .int x2), (4, .int x4), (6, .int x6), (7, .int x7), (9, .int (b2i x9)), (10, .int x10), (11, .int x11), (12, .int q1338), (13, .int q1340), (14, .int ((1 : Int32) + (x1 - x1 / (2 : Int32) * (2 : Int32)))), (15, .int q1341.1)]) X dL_holds_397 [1, 2, 3, 4, 5, 6, 7, 8, 9, 10, 11, 12, 0] (Nat.le_of_ble_eq_true rfl) rfl ?_
  refine g_aload_n X dL_holds_399 0 rfl rfl ?_
  obtain ⟨q1342, hq1342, hf⟩ := obind hf
  refine g_regroup (gs' := [FP h0 (hs 1) (hs 2) (hs 3) (hs 4) (hs 5) (hs 6) (hs 7) (hs 8) (hs 9), TX cy (hs 1) (hs 10) q1341.2.1, TB cy (hs 2) (hs 11) (hs 12) (hs 13) q1341.2.2.1, SU cy (hs 12) (hs 14) q1341.2.2.2.1, SC (hs 13) q1341.2.2.2.2.1, TB cy (hs 3) (hs 15) (hs 16) (hs 17) q1341.2.2.2.2.2.1, SU cy (hs 16) (hs 18) q1341.2.2.2.2.2.2.1, SC (hs 17) q1341.2.2.2.2.2.2.2.1, HI (hs 4) (hs 19) q1341.2.2.2.2.2.2.2.2.1, HR cy (hs 19) ta q1341.2.2.2.2.2.2.2.2.2.1, SL (hs 5) (hs 20) q1341.2.2.2.2.2.2.2.2.2.2.1, TB cy (hs 20) (hs 21) (hs 22) (hs 23) q1341.2.2.2.2.2.2.2.2.2.2.2.1, SU cy (hs 22) (hs 24) q1341.2.2.2.2.2.2.2.2.2.2.2.2.1, SL (hs 6) (hs 25) q1341.2.2.2.2.2.2.2.2.2.2.2.2.2.1, TB cy (hs 25) (hs 26) (hs 27) (hs 28) q1341.2.2.2.2.2.2.2.2.2.2.2.2.2.2.1, SU cy (hs 27) (hs 29) q1341.2.2.2.2.2.2.2.2.2.2.2.2.2.2.2.1, TA (hs 7) q1341.2.2.2.2.2.2.2.2.2.2.2.2.2.2.2.2.1, AI cy 12 (hs 8) q1341.2.2.2.2.2.2.2.2.2.2.2.2.2.2.2.2.2.1, AI cy 66 (hs 9) q1341.2.2.2.2.2.2.2.2.2.2.2.2.2.2.2.2.2.2, AI cy 12 t0 w0]) (ob_split (pre := []) (g := [FP h0 (hs 1) (hs 2) (hs 3) (hs 4) (hs 5) (hs 6) (hs 7) (hs 8) (hs 9), TX cy (hs 1) (hs 10) q1341.2.1, TB cy (hs 2) (hs 11) (hs 12) (hs 13) q1341.2.2.1, SU cy (hs 12) (hs 14) q1341.2.2.2.1, SC (hs 13) q1341.2.2.2.2.1, TB cy (hs 3) (hs 15) (hs 16) (hs 17) q1341.2.2.2.2.2.1, SU cy (hs 16) (hs 18) q1341.2.2.2.2.2.2.1, SC (hs 17) q1341.2.2.2.2.2.2.2.1, HI (hs 4) (hs 19) q1341.2.2.2.2.2.2.2.2.1, HR cy (hs 19) ta q1341.2.2.2.2.2.2.2.2.2.1, SL (hs 5) (hs 20) q1341.2.2.2.2.2.2.2.2.2.2.1, TB cy (hs 20) (hs 21) (hs 22) (hs 23) q1341.2.2.2.2.2.2.2.2.2.2.2.1, SU cy (hs 22) (hs 24) q1341.2.2.2.2.2.2.2.2.2.2.2.2.1, SL (hs 6) (hs 25) q1341.2.2.2.2.2.2.2.2.2.2.2.2.2.1, TB cy (hs 25) (hs 26) (hs 27) (hs 28) q1341.2.2.2.2.2.2.2.2.2.2.2.2.2.2.1, SU cy (hs 27) (hs 29) q1341.2.2.2.2.2.2.2.2.2.2.2.2.2.2.2.1, TA (hs 7) q1341.2.2.2.2.2.2.2.2.2.2.2.2.2.2.2.2.1, AI cy 12 (hs 8) q1341.2.2.2.2.2.2.2.2.2.2.2.2.2.2.2.2.2.1, AI cy 66 (hs 9) q1341.2.2.2.2.2.2.2.2.2.2.2.2.2.2.2.2.2.2]) (r := [AI cy 12 t0 w0])) ?_
  refine g_callV (gs' := [FP h0 (hs 1) (hs 2) (hs 3) (hs 4) (hs 5) (hs 6) (hs 7) (hs 8) (hs 9), TX cy (hs 1) (hs 10) q1341.2.1, TB cy (hs 2) (hs 11) (hs 12) (hs 13) q1341.2.2.1, SU cy (hs 12) (hs 14) q1341.2.2.2.1, SC (hs 13) q1342.2.1, TB cy (hs 3) (hs 15) (hs 16) (hs 17) q1341.2.2.2.2.2.1, SU cy (hs 16) (hs 18) q1341.2.2.2.2.2.2.1, SC (hs 17) q1341.2.2.2.2.2.2.2.1, HI (hs 4) (hs 19) q1341.2.2.2.2.2.2.2.2.1, HR cy (hs 19) ta q1341.2.2.2.2.2.2.2.2.2.1, SL (hs 5) (hs 20) q1341.2.2.2.2.2.2.2.2.2.2.1, TB cy (hs 20) (hs 21) (hs 22) (hs 23) q1341.2.2.2.2.2.2.2.2.2.2.2.1, SU cy (hs 22) (hs 24) q1341.2.2.2.2.2.2.2.2.2.2.2.2.1, SL (hs 6) (hs 25) q1341.2.2.2.2.2.2.2.2.2.2.2.2.2.1, TB cy (hs 25) (hs 26) (hs 27) (hs 28) q1341.2.2.2.2.2.2.2.2.2.2.2.2.2.2.1, SU cy (hs 27) (hs 29) q1341.2.2.2.2.2.2.2.2.2.2.2.2.2.2.2.1, TA (hs 7) q1342.2.2, AI cy 12 (hs 8) q1341.2.2.2.2.2.2.2.2.2.2.2.2.2.2.2.2.2.1, AI cy 66 (hs 9) q1341.2.2.2.2.2.2.2.2.2.2.2.2.2.2.2.2.2.2, AI cy 12 t0 w0]) (rest := []) X dL_holds_400 (c_X7_sharpest l D cy ad h0 (hs 1) (hs 2) (hs 3) (hs 4) (hs 5) (hs 6) (hs 7) (hs 8) (hs 9) (hs 11) (hs 12) (hs 13) (hs 14) q1341.2.2.1 q1341.2.2.2.1 q1341.2.2.2.2.1 q1341.2.2.2.2.2.2.2.2.2.2.2.2.2.2.2.2.1 hq1342) mf_X7_sharpest mv_X7_sharpest lkm_L_165 ⟨(Nat.le_of_ble_eq_true rfl), (Nat.le_of_ble_eq_true rfl), (Nat.le_of_ble_eq_true rfl), (Nat.le_of_ble_eq_true rfl)⟩ 0 0 rfl rfl rfl rfl [0, 2, 3, 4, 16, 1, 5, 6, 7, 8, 9, 10, 11, 12, 13, 14, 15, 17, 18, 19] _ (by decide : [0, 2, 3, 4, 16, 1, 5, 6, 7, 8, 9, 10, 11, 12, 13, 14, 15, 17, 18, 19].Perm (List.range 20)) rfl (by decide : [0, 2, 3, 4, 16, 1, 5, 6, 7, 8, 9, 10, 11, 12, 13, 14, 15, 17, 18, 19].Perm (List.range 20)) rfl (Nat.le_of_ble_eq_true rfl) rfl ?_
  refine g_regroup (gs' := [OB cy h0 hs ta (q1341.2.1, q1341.2.2.1, q1341.2.2.2.1, q1342.2.1, q1341.2.2.2.2.2.1, q1341.2.2.2.2.2.2.1, q1341.2.2.2.2.2.2.2.1, q1341.2.2.2.2.2.2.2.2.1, q1341.2.2.2.2.2.2.2.2.2.1, q1341.2.2.2.2.2.2.2.2.2.2.1, q1341.2.2.2.2.2.2.2.2.2.2.2.1, q1341.2.2.2.2.2.2.2.2.2.2.2.2.1, q1341.2.2.2.2.2.2.2.2.2.2.2.2.2.1, q1341.2.2.2.2.2.2.2.2.2.2.2.2.2.2.1, q1341.2.2.2.2.2.2.2.2.2.2.2.2.2.2.2.1, q1342.2.2, q1341.2.2.2.2.2.2.2.2.2.2.2.2.2.2.2.2.2.1, q1341.2.2.2.2.2.2.2.2.2.2.2.2.2.2.2.2.2.2), AI cy 12 t0 w0]) (ob_split (pre := []) (g := [FP h0 (hs 1) (hs 2) (hs 3) (hs 4) (hs 5) (hs 6) (hs 7) (hs 8) (hs 9), TX cy (hs 1) (hs 10) q1341.2.1, TB cy (hs 2) (hs 11) (hs 12) (hs 13) q1341.2.2.1, SU cy (hs 12) (hs 14) q1341.2.2.2.1, SC (hs 13) q1342.2.1, TB cy (hs 3) (hs 15) (hs 16) (hs 17) q1341.2.2.2.2.2.1, SU cy (hs 16) (hs 18) q1341.2.2.2.2.2.2.1, SC (hs 17) q1341.2.2.2.2.2.2.2.1, HI (hs 4) (hs 19) q1341.2.2.2.2.2.2.2.2.1, HR cy (hs 19) ta q1341.2.2.2.2.2.2.2.2.2.1, SL (hs 5) (hs 20) q1341.2.2.2.2.2.2.2.2.2.2.1, TB cy (hs 20) (hs 21) (hs 22) (hs 23) q1341.2.2.2.2.2.2.2.2.2.2.2.1, SU cy (hs 22) (hs 24) q1341.2.2.2.2.2.2.2.2.2.2.2.2.1, SL (hs 6) (hs 25) q1341.2.2.2.2.2.2.2.2.2.2.2.2.2.1, TB cy (hs 25) (hs 26) (hs 27) (hs 28) q1341.2.2.2.2.2.2.2.2.2.2.2.2.2.2.1, SU cy (hs 27) (hs 29) q1341.2.2.2.2.2.2.2.2.2.2.2.2.2.2.2.1, TA (hs 7) q1342.2.2, AI cy 12 (hs 8) q1341.2.2.2.2.2.2.2.2.2.2.2.2.2.2.2.2.2.1, AI cy 66 (hs 9) q1341.2.2.2.2.2.2.2.2.2.2.2.2.2.2.2.2.2.2]) (r := [AI cy 12 t0 w0])).symm ?_
  refine g_istore (lv' := [(0, .ref h0), (1, .int x1), (2, .int x2), (4, .int x4), (6, .int x6), (7, .int x7), (9, .int (b2i x9)), (10, .int x10), (11, .int x11), (12, .int q1338), (13, .int q1340), (14, .int ((1 : Int32) + (x1 - x1 / (2 : Int32) * (2 : Int32)))), (15, .int q1341.1), (16, .int q1342.1)]) X dL_holds_403 [1, 2, 3, 4, 5, 6, 7, 8, 9, 10, 11, 12, 13, 0] (Nat.le_of_ble_eq_true rfl) rfl ?_
  refine g_iload X dL_holds_405 6 rfl ?_
  refine g_if_eq X 520 dL_holds_407 (by decide) (fun c1364 => ?_) (fun c1364 => ?_)
  · have hf := opos c1364 hf
    refine g_widen (k := 401) (n := 2412) (Nat.le_of_ble_eq_true rfl) (Nat.le_of_ble_eq_true rfl) ?_
    refine g_sub [0, 11, 12] (lv' := [(0, .ref h0), (14, .int ((1 : Int32) + (x1 - x1 / (2 : Int32) * (2 : Int32)))), (15, .int q1341.1)]) rfl ?_
    exact j_L_holds_b520 X hr hfl (q1341.2.1, q1341.2.2.1, q1341.2.2.2.1, q1342.2.1, q1341.2.2.2.2.2.1, q1341.2.2.2.2.2.2.1, q1341.2.2.2.2.2.2.2.1, q1341.2.2.2.2.2.2.2.2.1, q1341.2.2.2.2.2.2.2.2.2.1, q1341.2.2.2.2.2.2.2.2.2.2.1, q1341.2.2.2.2.2.2.2.2.2.2.2.1, q1341.2.2.2.2.2.2.2.2.2.2.2.2.1, q1341.2.2.2.2.2.2.2.2.2.2.2.2.2.1, q1341.2.2.2.2.2.2.2.2.2.2.2.2.2.2.1, q1341.2.2.2.2.2.2.2.2.2.2.2.2.2.2.2.1, q1342.2.2, q1341.2.2.2.2.2.2.2.2.2.2.2.2.2.2.2.2.2.1, q1341.2.2.2.2.2.2.2.2.2.2.2.2.2.2.2.2.2.2) w0 ((1 : Int32) + (x1 - x1 / (2 : Int32) * (2 : Int32))) q1341.1 hf
  · have hf := oneg c1364 hf
    refine g_iload X dL_holds_410 4 rfl ?_
    refine g_iload X dL_holds_412 3 rfl ?_
    refine g_icmp_ne X 520 dL_holds_414 (by decide) (fun c1363 => ?_) (fun c1363 => ?_)
    · have hf := oneg c1363 hf
      refine g_widen (k := 401) (n := 2412) (Nat.le_of_ble_eq_true rfl) (Nat.le_of_ble_eq_true rfl) ?_
      refine g_sub [0, 11, 12] (lv' := [(0, .ref h0), (14, .int ((1 : Int32) + (x1 - x1 / (2 : Int32) * (2 : Int32)))), (15, .int q1341.1)]) rfl ?_
      exact j_L_holds_b520 X hr hfl (q1341.2.1, q1341.2.2.1, q1341.2.2.2.1, q1342.2.1, q1341.2.2.2.2.2.1, q1341.2.2.2.2.2.2.1, q1341.2.2.2.2.2.2.2.1, q1341.2.2.2.2.2.2.2.2.1, q1341.2.2.2.2.2.2.2.2.2.1, q1341.2.2.2.2.2.2.2.2.2.2.1, q1341.2.2.2.2.2.2.2.2.2.2.2.1, q1341.2.2.2.2.2.2.2.2.2.2.2.2.1, q1341.2.2.2.2.2.2.2.2.2.2.2.2.2.1, q1341.2.2.2.2.2.2.2.2.2.2.2.2.2.2.1, q1341.2.2.2.2.2.2.2.2.2.2.2.2.2.2.2.1, q1342.2.2, q1341.2.2.2.2.2.2.2.2.2.2.2.2.2.2.2.2.2.1, q1341.2.2.2.2.2.2.2.2.2.2.2.2.2.2.2.2.2.2) w0 ((1 : Int32) + (x1 - x1 / (2 : Int32) * (2 : Int32))) q1341.1 hf
    · have hf := opos c1363 hf
      refine g_aload_n X dL_holds_417 0 rfl rfl ?_
      obtain ⟨q1349, hq1349, hf⟩ := obind hf
      refine g_regroup (gs' := [FP h0 (hs 1) (hs 2) (hs 3) (hs 4) (hs 5) (hs 6) (hs 7) (hs 8) (hs 9), TX cy (hs 1) (hs 10) q1341.2.1, TB cy (hs 2) (hs 11) (hs 12) (hs 13) q1341.2.2.1, SU cy (hs 12) (hs 14) q1341.2.2.2.1, SC (hs 13) q1342.2.1, TB cy (hs 3) (hs 15) (hs 16) (hs 17) q1341.2.2.2.2.2.1, SU cy (hs 16) (hs 18) q1341.2.2.2.2.2.2.1, SC (hs 17) q1341.2.2.2.2.2.2.2.1, HI (hs 4) (hs 19) q1341.2.2.2.2.2.2.2.2.1, HR cy (hs 19) ta q1341.2.2.2.2.2.2.2.2.2.1, SL (hs 5) (hs 20) q1341.2.2.2.2.2.2.2.2.2.2.1, TB cy (hs 20) (hs 21) (hs 22) (hs 23) q1341.2.2.2.2.2.2.2.2.2.2.2.1, SU cy (hs 22) (hs 24) q1341.2.2.2.2.2.2.2.2.2.2.2.2.1, SL (hs 6) (hs 25) q1341.2.2.2.2.2.2.2.2.2.2.2.2.2.1, TB cy (hs 25) (hs 26) (hs 27) (hs 28) q1341.2.2.2.2.2.2.2.2.2.2.2.2.2.2.1, SU cy (hs 27) (hs 29) q1341.2.2.2.2.2.2.2.2.2.2.2.2.2.2.2.1, TA (hs 7) q1342.2.2, AI cy 12 (hs 8) q1341.2.2.2.2.2.2.2.2.2.2.2.2.2.2.2.2.2.1, AI cy 66 (hs 9) q1341.2.2.2.2.2.2.2.2.2.2.2.2.2.2.2.2.2.2, AI cy 12 t0 w0]) (ob_split (pre := []) (g := [FP h0 (hs 1) (hs 2) (hs 3) (hs 4) (hs 5) (hs 6) (hs 7) (hs 8) (hs 9), TX cy (hs 1) (hs 10) q1341.2.1, TB cy (hs 2) (hs 11) (hs 12) (hs 13) q1341.2.2.1, SU cy (hs 12) (hs 14) q1341.2.2.2.1, SC (hs 13) q1342.2.1, TB cy (hs 3) (hs 15) (hs 16) (hs 17) q1341.2.2.2.2.2.1, SU cy (hs 16) (hs 18) q1341.2.2.2.2.2.2.1, SC (hs 17) q1341.2.2.2.2.2.2.2.1, HI (hs 4) (hs 19) q1341.2.2.2.2.2.2.2.2.1, HR cy (hs 19) ta q1341.2.2.2.2.2.2.2.2.2.1, SL (hs 5) (hs 20) q1341.2.2.2.2.2.2.2.2.2.2.1, TB cy (hs 20) (hs 21) (hs 22) (hs 23) q1341.2.2.2.2.2.2.2.2.2.2.2.1, SU cy (hs 22) (hs 24) q1341.2.2.2.2.2.2.2.2.2.2.2.2.1, SL (hs 6) (hs 25) q1341.2.2.2.2.2.2.2.2.2.2.2.2.2.1, TB cy (hs 25) (hs 26) (hs 27) (hs 28) q1341.2.2.2.2.2.2.2.2.2.2.2.2.2.2.1, SU cy (hs 27) (hs 29) q1341.2.2.2.2.2.2.2.2.2.2.2.2.2.2.2.1, TA (hs 7) q1342.2.2, AI cy 12 (hs 8) q1341.2.2.2.2.2.2.2.2.2.2.2.2.2.2.2.2.2.1, AI cy 66 (hs 9) q1341.2.2.2.2.2.2.2.2.2.2.2.2.2.2.2.2.2.2]) (r := [AI cy 12 t0 w0])) ?_
      refine g_callV (gs' := [FP h0 (hs 1) (hs 2) (hs 3) (hs 4) (hs 5) (hs 6) (hs 7) (hs 8) (hs 9), TX cy (hs 1) (hs 10) q1341.2.1, TB cy (hs 2) (hs 11) (hs 12) (hs 13) q1341.2.2.1, SU cy (hs 12) (hs 14) q1341.2.2.2.1, SC (hs 13) q1342.2.1, TB cy (hs 3) (hs 15) (hs 16) (hs 17) q1341.2.2.2.2.2.1, SU cy (hs 16) (hs 18) q1341.2.2.2.2.2.2.1, SC (hs 17) q1341.2.2.2.2.2.2.2.1, HI (hs 4) (hs 19) q1341.2.2.2.2.2.2.2.2.1, HR cy (hs 19) ta q1341.2.2.2.2.2.2.2.2.2.1, SL (hs 5) (hs 20) q1341.2.2.2.2.2.2.2.2.2.2.1, TB cy (hs 20) (hs 21) (hs 22) (hs 23) q1341.2.2.2.2.2.2.2.2.2.2.2.1, SU cy (hs 22) (hs 24) q1341.2.2.2.2.2.2.2.2.2.2.2.2.1, SL (hs 6) (hs 25) q1341.2.2.2.2.2.2.2.2.2.2.2.2.2.1, TB cy (hs 25) (hs 26) (hs 27) (hs 28) q1341.2.2.2.2.2.2.2.2.2.2.2.2.2.2.1, SU cy (hs 27) (hs 29) q1341.2.2.2.2.2.2.2.2.2.2.2.2.2.2.2.1, TA (hs 7) q1342.2.2, AI cy 12 (hs 8) q1341.2.2.2.2.2.2.2.2.2.2.2.2.2.2.2.2.2.1, AI cy 66 (hs 9) q1341.2.2.2.2.2.2.2.2.2.2.2.2.2.2.2.2.2.2, AI cy 12 t0 w0]) (rest := []) X dL_holds_418 (c_X7_pans l D cy ad h0 (hs 1) (hs 2) (hs 3) (hs 4) (hs 5) (hs 6) (hs 7) (hs 8) (hs 9) (hs 11) (hs 12) (hs 13) (hs 14) q1341.2.2.1 q1341.2.2.2.1 hq1349) mf_X7_pans mv_X7_pans lkm_L_168 ⟨(Nat.le_of_ble_eq_true rfl), (Nat.le_of_ble_eq_true rfl), (Nat.le_of_ble_eq_true rfl), (Nat.le_of_ble_eq_true rfl)⟩ 0 0 rfl rfl rfl rfl [0, 2, 3, 1, 4, 5, 6, 7, 8, 9, 10, 11, 12, 13, 14, 15, 16, 17, 18, 19] _ (by decide : [0, 2, 3, 1, 4, 5, 6, 7, 8, 9, 10, 11, 12, 13, 14, 15, 16, 17, 18, 19].Perm (List.range 20)) rfl (by decide : [0, 2, 3, 1, 4, 5, 6, 7, 8, 9, 10, 11, 12, 13, 14, 15, 16, 17, 18, 19].Perm (List.range 20)) rfl (Nat.le_of_ble_eq_true rfl) rfl ?_
      refine g_regroup (gs' := [OB cy h0 hs ta (q1341.2.1, q1341.2.2.1, q1341.2.2.2.1, q1342.2.1, q1341.2.2.2.2.2.1, q1341.2.2.2.2.2.2.1, q1341.2.2.2.2.2.2.2.1, q1341.2.2.2.2.2.2.2.2.1, q1341.2.2.2.2.2.2.2.2.2.1, q1341.2.2.2.2.2.2.2.2.2.2.1, q1341.2.2.2.2.2.2.2.2.2.2.2.1, q1341.2.2.2.2.2.2.2.2.2.2.2.2.1, q1341.2.2.2.2.2.2.2.2.2.2.2.2.2.1, q1341.2.2.2.2.2.2.2.2.2.2.2.2.2.2.1, q1341.2.2.2.2.2.2.2.2.2.2.2.2.2.2.2.1, q1342.2.2, q1341.2.2.2.2.2.2.2.2.2.2.2.2.2.2.2.2.2.1, q1341.2.2.2.2.2.2.2.2.2.2.2.2.2.2.2.2.2.2), AI cy 12 t0 w0]) (ob_split (pre := []) (g := [FP h0 (hs 1) (hs 2) (hs 3) (hs 4) (hs 5) (hs 6) (hs 7) (hs 8) (hs 9), TX cy (hs 1) (hs 10) q1341.2.1, TB cy (hs 2) (hs 11) (hs 12) (hs 13) q1341.2.2.1, SU cy (hs 12) (hs 14) q1341.2.2.2.1, SC (hs 13) q1342.2.1, TB cy (hs 3) (hs 15) (hs 16) (hs 17) q1341.2.2.2.2.2.1, SU cy (hs 16) (hs 18) q1341.2.2.2.2.2.2.1, SC (hs 17) q1341.2.2.2.2.2.2.2.1, HI (hs 4) (hs 19) q1341.2.2.2.2.2.2.2.2.1, HR cy (hs 19) ta q1341.2.2.2.2.2.2.2.2.2.1, SL (hs 5) (hs 20) q1341.2.2.2.2.2.2.2.2.2.2.1, TB cy (hs 20) (hs 21) (hs 22) (hs 23) q1341.2.2.2.2.2.2.2.2.2.2.2.1, SU cy (hs 22) (hs 24) q1341.2.2.2.2.2.2.2.2.2.2.2.2.1, SL (hs 6) (hs 25) q1341.2.2.2.2.2.2.2.2.2.2.2.2.2.1, TB cy (hs 25) (hs 26) (hs 27) (hs 28) q1341.2.2.2.2.2.2.2.2.2.2.2.2.2.2.1, SU cy (hs 27) (hs 29) q1341.2.2.2.2.2.2.2.2.2.2.2.2.2.2.2.1, TA (hs 7) q1342.2.2, AI cy 12 (hs 8) q1341.2.2.2.2.2.2.2.2.2.2.2.2.2.2.2.2.2.1, AI cy 66 (hs 9) q1341.2.2.2.2.2.2.2.2.2.2.2.2.2.2.2.2.2.2]) (r := [AI cy 12 t0 w0])).symm ?_
      refine g_iload X dL_holds_421 5 rfl ?_
      refine g_icmp_ne X 520 dL_holds_423 (by decide) (fun c1362 => ?_) (fun c1362 => ?_)
      · have hf := oneg c1362 hf
        refine g_widen (k := 401) (n := 2412) (Nat.le_of_ble_eq_true rfl) (Nat.le_of_ble_eq_true rfl) ?_
        refine g_sub [0, 11, 12] (lv' := [(0, .ref h0), (14, .int ((1 : Int32) + (x1 - x1 / (2 : Int32) * (2 : Int32)))), (15, .int q1341.1)]) rfl ?_
        exact j_L_holds_b520 X hr hfl (q1341.2.1, q1341.2.2.1, q1341.2.2.2.1, q1342.2.1, q1341.2.2.2.2.2.1, q1341.2.2.2.2.2.2.1, q1341.2.2.2.2.2.2.2.1, q1341.2.2.2.2.2.2.2.2.1, q1341.2.2.2.2.2.2.2.2.2.1, q1341.2.2.2.2.2.2.2.2.2.2.1, q1341.2.2.2.2.2.2.2.2.2.2.2.1, q1341.2.2.2.2.2.2.2.2.2.2.2.2.1, q1341.2.2.2.2.2.2.2.2.2.2.2.2.2.1, q1341.2.2.2.2.2.2.2.2.2.2.2.2.2.2.1, q1341.2.2.2.2.2.2.2.2.2.2.2.2.2.2.2.1, q1342.2.2, q1341.2.2.2.2.2.2.2.2.2.2.2.2.2.2.2.2.2.1, q1341.2.2.2.2.2.2.2.2.2.2.2.2.2.2.2.2.2.2) w0 ((1 : Int32) + (x1 - x1 / (2 : Int32) * (2 : Int32))) q1341.1 hf
      · have hf := opos c1362 hf
        refine g_iload X dL_holds_426 7 rfl ?_
        refine g_iload X dL_holds_428 3 rfl ?_
        refine g_icmp_ne X 520 dL_holds_430 (by decide) (fun c1361 => ?_) (fun c1361 => ?_)
        · have hf := oneg c1361 hf
          refine g_widen (k := 401) (n := 2412) (Nat.le_of_ble_eq_true rfl) (Nat.le_of_ble_eq_true rfl) ?_
          refine g_sub [0, 11, 12] (lv' := [(0, .ref h0), (14, .int ((1 : Int32) + (x1 - x1 / (2 : Int32) * (2 : Int32)))), (15, .int q1341.1)]) rfl ?_
          exact j_L_holds_b520 X hr hfl (q1341.2.1, q1341.2.2.1, q1341.2.2.2.1, q1342.2.1, q1341.2.2.2.2.2.1, q1341.2.2.2.2.2.2.1, q1341.2.2.2.2.2.2.2.1, q1341.2.2.2.2.2.2.2.2.1, q1341.2.2.2.2.2.2.2.2.2.1, q1341.2.2.2.2.2.2.2.2.2.2.1, q1341.2.2.2.2.2.2.2.2.2.2.2.1, q1341.2.2.2.2.2.2.2.2.2.2.2.2.1, q1341.2.2.2.2.2.2.2.2.2.2.2.2.2.1, q1341.2.2.2.2.2.2.2.2.2.2.2.2.2.2.1, q1341.2.2.2.2.2.2.2.2.2.2.2.2.2.2.2.1, q1342.2.2, q1341.2.2.2.2.2.2.2.2.2.2.2.2.2.2.2.2.2.1, q1341.2.2.2.2.2.2.2.2.2.2.2.2.2.2.2.2.2.2) w0 ((1 : Int32) + (x1 - x1 / (2 : Int32) * (2 : Int32))) q1341.1 hf
        · have hf := opos c1361 hf
          refine g_aload_n X dL_holds_433 0 rfl rfl ?_
          refine g_iconst X (2 : Int32) dL_holds_434 (by decide) ?_
          refine g_bipush X (6 : Int32) dL_holds_435 (by decide) ?_
          refine g_iconst X (0 : Int32) dL_holds_437 (by decide) ?_
          refine g_iconst X (0 : Int32) dL_holds_438 (by decide) ?_
          obtain ⟨q1350, hq1350, hf⟩ := obind hf
          refine g_callS (gs' := [OB cy h0 hs ta q1350.2, AI cy 12 t0 w0]) (rest := []) X dL_holds_439 (o_L_call l D cy ad h0 hs ta (q1341.2.1, q1341.2.2.1, q1341.2.2.2.1, q1342.2.1, q1341.2.2.2.2.2.1, q1341.2.2.2.2.2.2.1, q1341.2.2.2.2.2.2.2.1, q1341.2.2.2.2.2.2.2.2.1, q1341.2.2.2.2.2.2.2.2.2.1, q1341.2.2.2.2.2.2.2.2.2.2.1, q1341.2.2.2.2.2.2.2.2.2.2.2.1, q1341.2.2.2.2.2.2.2.2.2.2.2.2.1, q1341.2.2.2.2.2.2.2.2.2.2.2.2.2.1, q1341.2.2.2.2.2.2.2.2.2.2.2.2.2.2.1, q1341.2.2.2.2.2.2.2.2.2.2.2.2.2.2.2.1, q1342.2.2, q1341.2.2.2.2.2.2.2.2.2.2.2.2.2.2.2.2.2.1, q1341.2.2.2.2.2.2.2.2.2.2.2.2.2.2.2.2.2.2) (2 : Int32) (6 : Int32) (0 : Int32) (0 : Int32) hfl hq1350) mf_L_call ms_L_call lkm_L_144 ⟨(Nat.le_of_ble_eq_true rfl), (Nat.le_of_ble_eq_true rfl), (Nat.le_of_ble_eq_true rfl), (Nat.le_of_ble_eq_true rfl)⟩ [0, 1] _ (by decide : [0, 1].Perm (List.range 2)) rfl (by decide : [0, 1].Perm (List.range 2)) rfl (Nat.le_of_ble_eq_true rfl) rfl ?_
          refine g_cs (c' := 401) (s' := 2412) rfl rfl ?_
          refine g_iload X dL_holds_442 8 rfl ?_
          refine g_icmp_ne X 520 dL_holds_444 (by decide) (fun c1360 => ?_) (fun c1360 => ?_)
          · have hf := oneg c1360 hf
            refine g_sub [0, 11, 12] (lv' := [(0, .ref h0), (14, .int ((1 : Int32) + (x1 - x1 / (2 : Int32) * (2 : Int32)))), (15, .int q1341.1)]) rfl ?_
            exact j_L_holds_b520 X hr hfl q1350.2 w0 ((1 : Int32) + (x1 - x1 / (2 : Int32) * (2 : Int32))) q1341.1 hf
          · have hf := opos c1360 hf
            refine g_iload X dL_holds_447 10 rfl ?_
            refine g_iload X dL_holds_449 3 rfl ?_
            refine g_icmp_lt X 520 dL_holds_451 (by decide) (fun c1359 => ?_) (fun c1359 => ?_)
            · have hf := opos c1359 hf
              refine g_sub [0, 11, 12] (lv' := [(0, .ref h0), (14, .int ((1 : Int32) + (x1 - x1 / (2 : Int32) * (2 : Int32)))), (15, .int q1341.1)]) rfl ?_
              exact j_L_holds_b520 X hr hfl q1350.2 w0 ((1 : Int32) + (x1 - x1 / (2 : Int32) * (2 : Int32))) q1341.1 hf
            · have hf := oneg c1359 hf
              refine g_iload X dL_holds_454 9 rfl ?_
              refine g_if_ne X 468 dL_holds_456 (by decide) (fun c1358 => ?_) (fun c1358 => ?_)
              · have hf := oneg c1358 hf
                refine g_iload X dL_holds_468 10 rfl ?_
                refine g_iconst X (3 : Int32) dL_holds_470 (by decide) ?_
                refine g_idiv X dL_holds_471 (by decide) ?_
                refine g_iload X dL_holds_472 3 rfl ?_
                refine g_icmp_ge X 520 dL_holds_474 (by decide) (fun c1356 => ?_) (fun c1356 => ?_)
                · have hf := opos c1356 hf
                  refine g_sub [0, 11, 12] (lv' := [(0, .ref h0), (14, .int ((1 : Int32) + (x1 - x1 / (2 : Int32) * (2 : Int32)))), (15, .int q1341.1)]) rfl ?_
                  exact j_L_holds_b520 X hr hfl q1350.2 w0 ((1 : Int32) + (x1 - x1 / (2 : Int32) * (2 : Int32))) q1341.1 hf
                · have hf := oneg c1356 hf
                  refine g_sub [0, 2, 3, 11, 12, 13] (lv' := [(0, .ref h0), (2, .int x2), (4, .int x4), (14, .int ((1 : Int32) + (x1 - x1 / (2 : Int32) * (2 : Int32)))), (15, .int q1341.1), (16, .int q1342.1)]) rfl ?_
                  exact j_L_holds_b477 X hr hfl q1350.2 w0 x2 x4 ((1 : Int32) + (x1 - x1 / (2 : Int32) * (2 : Int32))) q1341.1 q1342.1 hf
              · have hf := opos c1358 hf
                refine g_iload X dL_holds_459 3 rfl ?_
                refine g_iconst X (1 : Int32) dL_holds_461 (by decide) ?_
                refine g_icmp_ne X 520 dL_holds_462 (by decide) (fun c1357 => ?_) (fun c1357 => ?_)
                · have hf := oneg c1357 hf
                  refine g_sub [0, 11, 12] (lv' := [(0, .ref h0), (14, .int ((1 : Int32) + (x1 - x1 / (2 : Int32) * (2 : Int32)))), (15, .int q1341.1)]) rfl ?_
                  exact j_L_holds_b520 X hr hfl q1350.2 w0 ((1 : Int32) + (x1 - x1 / (2 : Int32) * (2 : Int32))) q1341.1 hf
                · have hf := opos c1357 hf
                  refine g_goto X 477 dL_holds_465 (by decide) ?_
                  refine g_sub [0, 2, 3, 11, 12, 13] (lv' := [(0, .ref h0), (2, .int x2), (4, .int x4), (14, .int ((1 : Int32) + (x1 - x1 / (2 : Int32) * (2 : Int32)))), (15, .int q1341.1), (16, .int q1342.1)]) rfl ?_
                  exact j_L_holds_b477 X hr hfl q1350.2 w0 x2 x4 ((1 : Int32) + (x1 - x1 / (2 : Int32) * (2 : Int32))) q1341.1 q1342.1 hf
def f_L_holds_b227 (v0 : OBv) (w0 : Fn) (x1 : Int32) (x2 : Int32) (x3 : Int32) (x4 : Int32) (x5 : Int32) (x6 : Int32) (x7 : Int32) (x9 : Bool) : Option (Bool × OBv) :=
  (itl (f_L_holds_B236 w0 x1 x2 x4 x5 x6 x7) 21 (x9, x3, (0 : Int32), (0 : Int32), v0)).bind (fun q1337 => f_L_holds_b349 q1337.2.2.2 w0 x1 x2 x4 x6 x7 q1337.1 q1337.2.1 q1337.2.2.1)
set_option maxRecDepth 100000 in
set_option maxHeartbeats 4000000 in
theorem j_L_holds_b227 {p : Program} {l : Launch} {e : Env} {s : State} {m : MethodId} {args : Array Value} {below : List Frame} {meth : Method} {c : Code} {A : Nat → Prop} {D : va_G} {cy : Nat → ClassId} {ad : (Nat → Nat) × (Nat → Nat)} (X : gK p s m args meth c A D cy ad cL_holds 17 RL) (hr : meth.sig.returnType = (some .boolean)) (hfl : l.stackTraces = false) {h0 t0 : Nat} {hs : Nat → Nat} {ta : TAd} (v0 : OBv) (w0 : Fn) (x1 : Int32) (x2 : Int32) (x3 : Int32) (x4 : Int32) (x5 : Int32) (x6 : Int32) (x7 : Int32) (x9 : Bool) {q : Bool × OBv} (hf : f_L_holds_b227 v0 w0 x1 x2 x3 x4 x5 x6 x7 x9 = some q) : GW p l e rmL_holds s m args below meth c A D 17 187 1128 (MQ below (cmQ D cy A (some (.int (b2i q.1))) ([OB cy h0 hs ta q.2] : List va_W).flatten) args s 413 2484 A) 227 [(0, .ref h0), (1, .int x1), (2, .int x2), (3, .int x3), (4, .int x4), (5, .int x5), (6, .int x6), (7, .int x7), (9, .int (b2i x9))] [] [OB cy h0 hs ta v0, AI cy 12 t0 w0] := by
  unfold f_L_holds_b227 at hf
  refine g_iload_n X dL_holds_227 3 rfl rfl ?_
  refine g_istore (lv' := [(0, .ref h0), (1, .int x1), (2, .int x2), (3, .int x3), (4, .int x4), (5, .int x5), (6, .int x6), (7, .int x7), (9, .int (b2i x9)), (10, .int x3)]) X dL_holds_228 [1, 2, 3, 4, 5, 6, 7, 8, 9, 0] (Nat.le_of_ble_eq_true rfl) rfl ?_
  refine g_iconst X (0 : Int32) dL_holds_230 (by decide) ?_
  refine g_istore (lv' := [(0, .ref h0), (1, .int x1), (2, .int x2), (3, .int x3), (4, .int x4), (5, .int x5), (6, .int x6), (7, .int x7), (9, .int (b2i x9)), (10, .int x3), (11, .int (0 : Int32))]) X dL_holds_231 [1, 2, 3, 4, 5, 6, 7, 8, 9, 10, 0] (Nat.le_of_ble_eq_true rfl) rfl ?_
  refine g_iconst X (0 : Int32) dL_holds_233 (by decide) ?_
  refine g_istore (lv' := [(0, .ref h0), (1, .int x1), (2, .int x2), (3, .int x3), (4, .int x4), (5, .int x5), (6, .int x6), (7, .int x7), (9, .int (b2i x9)), (10, .int x3), (11, .int (0 : Int32)), (12, .int (0 : Int32))]) X dL_holds_234 [1, 2, 3, 4, 5, 6, 7, 8, 9, 10, 11, 0] (Nat.le_of_ble_eq_true rfl) rfl ?_
  obtain ⟨q1337, hq1337, hf⟩ := obind hf
  refine g_sub [0, 1, 2, 4, 5, 6, 7, 8, 9, 10, 11] (lv' := [(0, .ref h0), (1, .int x1), (2, .int x2), (4, .int x4), (5, .int x5), (6, .int x6), (7, .int x7), (9, .int (b2i x9)), (10, .int x3), (11, .int (0 : Int32)), (12, .int (0 : Int32))]) rfl ?_
  refine w_L_holds_B236 X hr hfl w0 x1 x2 x4 x5 x6 x7 (n := 21) (cb := 187) (sb := 1128) hq1337 (Nat.le_of_ble_eq_true rfl) (Nat.le_of_ble_eq_true rfl) ?_
  refine g_cs (c' := 397) (s' := 2388) rfl rfl ?_
  exact j_L_holds_b349 X hr hfl q1337.2.2.2 w0 x1 x2 x4 x6 x7 q1337.1 q1337.2.1 q1337.2.2.1 hf
def f_L_holds_b183 (v0 : OBv) (w0 : Fn) (x1 : Int32) (x2 : Int32) (x3 : Int32) (x4 : Int32) (x5 : Int32) (x6 : Int32) (x7 : Int32) (x9 : Bool) : Option (Bool × OBv) :=
  (itl (f_L_holds_B186 w0 x1 x2 x3 x4 x5 x6 x7) 13 (x9, (0 : Int32), v0)).bind (fun q1323 => f_L_holds_b227 q1323.2 w0 x1 x2 x3 x4 x5 x6 x7 q1323.1)
set_option maxRecDepth 100000 in
set_option maxHeartbeats 4000000 in
theorem j_L_holds_b183 {p : Program} {l : Launch} {e : Env} {s : State} {m : MethodId} {args : Array Value} {below : List Frame} {meth : Method} {c : Code} {A : Nat → Prop} {D : va_G} {cy : Nat → ClassId} {ad : (Nat → Nat) × (Nat → Nat)} (X : gK p s m args meth c A D cy ad cL_holds 17 RL) (hr : meth.sig.returnType = (some .boolean)) (hfl : l.stackTraces = false) {h0 t0 : Nat} {hs : Nat → Nat} {ta : TAd} (v0 : OBv) (w0 : Fn) (x1 : Int32) (x2 : Int32) (x3 : Int32) (x4 : Int32) (x5 : Int32) (x6 : Int32) (x7 : Int32) (x9 : Bool) {q : Bool × OBv} (hf : f_L_holds_b183 v0 w0 x1 x2 x3 x4 x5 x6 x7 x9 = some q) : GW p l e rmL_holds s m args below meth c A D 17 161 972 (MQ below (cmQ D cy A (some (.int (b2i q.1))) ([OB cy h0 hs ta q.2] : List va_W).flatten) args s 413 2484 A) 183 [(0, .ref h0), (1, .int x1), (2, .int x2), (3, .int x3), (4, .int x4), (5, .int x5), (6, .int x6), (7, .int x7), (8, .ref t0), (9, .int (b2i x9))] [] [OB cy h0 hs ta v0, AI cy 12 t0 w0] := by
  unfold f_L_holds_b183 at hf
  refine g_iconst X (0 : Int32) dL_holds_183 (by decide) ?_
  refine g_istore (lv' := [(0, .ref h0), (1, .int x1), (2, .int x2), (3, .int x3), (4, .int x4), (5, .int x5), (6, .int x6), (7, .int x7), (8, .ref t0), (9, .int (b2i x9)), (10, .int (0 : Int32))]) X dL_holds_184 [1, 2, 3, 4, 5, 6, 7, 8, 9, 10, 0] (Nat.le_of_ble_eq_true rfl) rfl ?_
  obtain ⟨q1323, hq1323, hf⟩ := obind hf
  refine w_L_holds_B186 X hr hfl w0 x1 x2 x3 x4 x5 x6 x7 (n := 13) (cb := 161) (sb := 972) hq1323 (Nat.le_of_ble_eq_true rfl) (Nat.le_of_ble_eq_true rfl) ?_
  refine g_cs (c' := 187) (s' := 1128) rfl rfl ?_
  exact j_L_holds_b227 X hr hfl q1323.2 w0 x1 x2 x3 x4 x5 x6 x7 q1323.1 hf
def f_L_holds_b77 (v0 : OBv) (w0 : Fn) (x1 : Int32) (x2 : Int32) (x3 : Int32) (x4 : Int32) (x5 : Int32) (x6 : Int32) (x7 : Int32) (y0 : Bool) : Option (Bool × OBv) :=
  (itl (f_L_holds_B82 x1 x2 x3 x4 x5 y0) 76 (x6, x7, (0 : Int32), v0, w0)).bind (fun q1316 => f_L_holds_b183 q1316.2.2.1 q1316.2.2.2 x1 x2 x3 x4 x5 q1316.1 q1316.2.1 y0)
set_option maxRecDepth 100000 in
set_option maxHeartbeats 4000000 in
theorem j_L_holds_b77 {p : Program} {l : Launch} {e : Env} {s : State} {m : MethodId} {args : Array Value} {below : List Frame} {meth : Method} {c : Code} {A : Nat → Prop} {D : va_G} {cy : Nat → ClassId} {ad : (Nat → Nat) × (Nat → Nat)} (X : gK p s m args meth c A D cy ad cL_holds 17 RL) (hr : meth.sig.returnType = (some .boolean)) (hfl : l.stackTraces = false) {h0 t0 : Nat} {hs : Nat → Nat} {ta : TAd} (v0 : OBv) (w0 : Fn) (x1 : Int32) (x2 : Int32) (x3 : Int32) (x4 : Int32) (x5 : Int32) (x6 : Int32) (x7 : Int32) (y0 : Bool) {q : Bool × OBv} (hf : f_L_holds_b77 v0 w0 x1 x2 x3 x4 x5 x6 x7 y0 = some q) : GW p l e rmL_holds s m args below meth c A D 17 9 60 (MQ below (cmQ D cy A (some (.int (b2i q.1))) ([OB cy h0 hs ta q.2] : List va_W).flatten) args s 413 2484 A) 77 [(0, .ref h0), (1, .int x1), (2, .int x2), (3, .int x3), (4, .int x4), (5, .int x5), (6, .int x6), (7, .int x7), (8, .ref t0)] [.int (b2i y0)] [OB cy h0 hs ta v0, AI cy 12 t0 w0] := by
  unfold f_L_holds_b77 at hf
  refine g_istore (lv' := [(0, .ref h0), (1, .int x1), (2, .int x2), (3, .int x3), (4, .int x4), (5, .int x5), (6, .int x6), (7, .int x7), (8, .ref t0), (9, .int (b2i y0))]) X dL_holds_77 [1, 2, 3, 4, 5, 6, 7, 8, 9, 0] (Nat.le_of_ble_eq_true rfl) rfl ?_
  refine g_iconst X (0 : Int32) dL_holds_79 (by decide) ?_
  refine g_istore (lv' := [(0, .ref h0), (1, .int x1), (2, .int x2), (3, .int x3), (4, .int x4), (5, .int x5), (6, .int x6), (7, .int x7), (8, .ref t0), (9, .int (b2i y0)), (10, .int (0 : Int32))]) X dL_holds_80 [1, 2, 3, 4, 5, 6, 7, 8, 9, 10, 0] (Nat.le_of_ble_eq_true rfl) rfl ?_
  obtain ⟨q1316, hq1316, hf⟩ := obind hf
  refine w_L_holds_B82 X hr hfl x1 x2 x3 x4 x5 y0 (n := 76) (cb := 9) (sb := 60) hq1316 (Nat.le_of_ble_eq_true rfl) (Nat.le_of_ble_eq_true rfl) ?_
  refine g_cs (c' := 161) (s' := 972) rfl rfl ?_
  exact j_L_holds_b183 X hr hfl q1316.2.2.1 q1316.2.2.2 x1 x2 x3 x4 x5 q1316.1 q1316.2.1 y0 hf
def f_L_holds_b76 (v0 : OBv) (w0 : Fn) (x1 : Int32) (x2 : Int32) (x3 : Int32) (x4 : Int32) (x5 : Int32) (x6 : Int32) (x7 : Int32) : Option (Bool × OBv) :=
  f_L_holds_b77 v0 w0 x1 x2 x3 x4 x5 x6 x7 false
set_option maxRecDepth 100000 in
set_option maxHeartbeats 4000000 in
theorem j_L_holds_b76 {p : Program} {l : Launch} {e : Env} {s : State} {m : MethodId} {args : Array Value} {below : List Frame} {meth : Method} {c : Code} {A : Nat → Prop} {D : va_G} {cy : Nat → ClassId} {ad : (Nat → Nat) × (Nat → Nat)} (X : gK p s m args meth c A D cy ad cL_holds 17 RL) (hr : meth.sig.returnType = (some .boolean)) (hfl : l.stackTraces = false) {h0 t0 : Nat} {hs : Nat → Nat} {ta : TAd} (v0 : OBv) (w0 : Fn) (x1 : Int32) (x2 : Int32) (x3 : Int32) (x4 : Int32) (x5 : Int32) (x6 : Int32) (x7 : Int32) {q : Bool × OBv} (hf : f_L_holds_b76 v0 w0 x1 x2 x3 x4 x5 x6 x7 = some q) : GW p l e rmL_holds s m args below meth c A D 17 9 60 (MQ below (cmQ D cy A (some (.int (b2i q.1))) ([OB cy h0 hs ta q.2] : List va_W).flatten) args s 413 2484 A) 76 [(0, .ref h0), (1, .int x1), (2, .int x2), (3, .int x3), (4, .int x4), (5, .int x5), (6, .int x6), (7, .int x7), (8, .ref t0)] [] [OB cy h0 hs ta v0, AI cy 12 t0 w0] := by
  unfold f_L_holds_b76 at hf
  refine g_iconst X (0 : Int32) dL_holds_76 (by decide) ?_
  exact j_L_holds_b77 X hr hfl v0 w0 x1 x2 x3 x4 x5 x6 x7 false hf
def f_L_holds (v0 : OBv) (p1 : Int32) : Option (Bool × OBv) :=
  (f_O_call v0 (2 : Int32) (0 : Int32) (0 : Int32) (0 : Int32)).bind (fun q1302 => (f_O_call q1302.2 (2 : Int32) (1 : Int32) (0 : Int32) (0 : Int32)).bind (fun q1303 => (f_O_call q1303.2 (2 : Int32) (2 : Int32) (0 : Int32) (0 : Int32)).bind (fun q1304 => (f_O_call q1304.2 (2 : Int32) (3 : Int32) (0 : Int32) (0 : Int32)).bind (fun q1305 => if q1303.1 = (((6 : Int32) * q1302.1) + (3 : Int32)) then if q1304.1 ≤ 0 then f_L_holds_b76 q1305.2 (fun _ => (0 : Int32)) p1 q1302.1 q1303.1 q1304.1 q1305.1 (0 : Int32) (0 : Int32) else if (20 : Int32) < q1305.1 then f_L_holds_b76 q1305.2 (fun _ => (0 : Int32)) p1 q1302.1 q1303.1 q1304.1 q1305.1 (0 : Int32) (0 : Int32) else f_L_holds_b77 q1305.2 (fun _ => (0 : Int32)) p1 q1302.1 q1303.1 q1304.1 q1305.1 (0 : Int32) (0 : Int32) true else f_L_holds_b76 q1305.2 (fun _ => (0 : Int32)) p1 q1302.1 q1303.1 q1304.1 q1305.1 (0 : Int32) (0 : Int32)))))
set_option maxRecDepth 100000 in
set_option maxHeartbeats 4000000 in
theorem c_L_holds (l : Launch) (D : va_G) (cy : Nat → ClassId) (ad : (Nat → Nat) × (Nat → Nat)) (h0 : Nat) (hs : Nat → Nat) (ta : TAd) (v0 : OBv) (p1 : Int32) (hfl : l.stackTraces = false) {q : Bool × OBv} (hf : f_L_holds v0 p1 = some q) : CM l yL_holds cL_holds 17 (some .boolean) rmL_holds D cy ad [.ref h0, .int p1] [OB cy h0 hs ta v0] (some (.int (b2i q.1))) [OB cy h0 hs ta q.2] := by
  refine cm_of (lv0 := [(0, .ref h0), (1, .int p1)]) (by decide) (Nat.le_of_ble_eq_true rfl) rfl ?_
  intro p e s m args below meth c A X hr hn
  have X : gK p s m args meth c A D cy ad cL_holds 17 RL := X
  unfold f_L_holds at hf
  refine g_aload_n X dL_holds_0 0 rfl rfl ?_
  refine g_iconst X (2 : Int32) dL_holds_1 (by decide) ?_
  refine g_iconst X (0 : Int32) dL_holds_2 (by decide) ?_
  refine g_iconst X (0 : Int32) dL_holds_3 (by decide) ?_
  refine g_iconst X (0 : Int32) dL_holds_4 (by decide) ?_
  obtain ⟨q1302, hq1302, hf⟩ := obind hf
  refine g_callS (gs' := [OB cy h0 hs ta q1302.2]) (rest := []) X dL_holds_5 (o_L_call l D cy ad h0 hs ta v0 (2 : Int32) (0 : Int32) (0 : Int32) (0 : Int32) hfl hq1302) mf_L_call ms_L_call lkm_L_144 ⟨(Nat.le_of_ble_eq_true rfl), (Nat.le_of_ble_eq_true rfl), (Nat.le_of_ble_eq_true rfl), (Nat.le_of_ble_eq_true rfl)⟩ [0] _ (by decide : [0].Perm (List.range 1)) rfl (by decide : [0].Perm (List.range 1)) rfl (Nat.le_of_ble_eq_true rfl) rfl ?_
  refine g_cs (c' := 2) (s' := 12) rfl rfl ?_
  refine g_istore_n (lv' := [(0, .ref h0), (1, .int p1), (2, .int q1302.1)]) X dL_holds_8 [1, 2, 0] rfl (Nat.le_of_ble_eq_true rfl) rfl ?_
  refine g_aload_n X dL_holds_9 0 rfl rfl ?_
  refine g_iconst X (2 : Int32) dL_holds_10 (by decide) ?_
  refine g_iconst X (1 : Int32) dL_holds_11 (by decide) ?_
  refine g_iconst X (0 : Int32) dL_holds_12 (by decide) ?_
  refine g_iconst X (0 : Int32) dL_holds_13 (by decide) ?_
  obtain ⟨q1303, hq1303, hf⟩ := obind hf
  refine g_callS (gs' := [OB cy h0 hs ta q1303.2]) (rest := []) X dL_holds_14 (o_L_call l D cy ad h0 hs ta q1302.2 (2 : Int32) (1 : Int32) (0 : Int32) (0 : Int32) hfl hq1303) mf_L_call ms_L_call lkm_L_144 ⟨(Nat.le_of_ble_eq_true rfl), (Nat.le_of_ble_eq_true rfl), (Nat.le_of_ble_eq_true rfl), (Nat.le_of_ble_eq_true rfl)⟩ [0] _ (by decide : [0].Perm (List.range 1)) rfl (by decide : [0].Perm (List.range 1)) rfl (Nat.le_of_ble_eq_true rfl) rfl ?_
  refine g_cs (c' := 4) (s' := 24) rfl rfl ?_
  refine g_istore_n (lv' := [(0, .ref h0), (1, .int p1), (2, .int q1302.1), (3, .int q1303.1)]) X dL_holds_17 [1, 2, 3, 0] rfl (Nat.le_of_ble_eq_true rfl) rfl ?_
  refine g_aload_n X dL_holds_18 0 rfl rfl ?_
  refine g_iconst X (2 : Int32) dL_holds_19 (by decide) ?_
  refine g_iconst X (2 : Int32) dL_holds_20 (by decide) ?_
  refine g_iconst X (0 : Int32) dL_holds_21 (by decide) ?_
  refine g_iconst X (0 : Int32) dL_holds_22 (by decide) ?_
  obtain ⟨q1304, hq1304, hf⟩ := obind hf
  refine g_callS (gs' := [OB cy h0 hs ta q1304.2]) (rest := []) X dL_holds_23 (o_L_call l D cy ad h0 hs ta q1303.2 (2 : Int32) (2 : Int32) (0 : Int32) (0 : Int32) hfl hq1304) mf_L_call ms_L_call lkm_L_144 ⟨(Nat.le_of_ble_eq_true rfl), (Nat.le_of_ble_eq_true rfl), (Nat.le_of_ble_eq_true rfl), (Nat.le_of_ble_eq_true rfl)⟩ [0] _ (by decide : [0].Perm (List.range 1)) rfl (by decide : [0].Perm (List.range 1)) rfl (Nat.le_of_ble_eq_true rfl) rfl ?_
  refine g_cs (c' := 6) (s' := 36) rfl rfl ?_
  refine g_istore (lv' := [(0, .ref h0), (1, .int p1), (2, .int q1302.1), (3, .int q1303.1), (4, .int q1304.1)]) X dL_holds_26 [1, 2, 3, 4, 0] (Nat.le_of_ble_eq_true rfl) rfl ?_
  refine g_aload_n X dL_holds_28 0 rfl rfl ?_
  refine g_iconst X (2 : Int32) dL_holds_29 (by decide) ?_
  refine g_iconst X (3 : Int32) dL_holds_30 (by decide) ?_
  refine g_iconst X (0 : Int32) dL_holds_31 (by decide) ?_
  refine g_iconst X (0 : Int32) dL_holds_32 (by decide) ?_
  obtain ⟨q1305, hq1305, hf⟩ := obind hf
  refine g_callS (gs' := [OB cy h0 hs ta q1305.2]) (rest := []) X dL_holds_33 (o_L_call l D cy ad h0 hs ta q1304.2 (2 : Int32) (3 : Int32) (0 : Int32) (0 : Int32) hfl hq1305) mf_L_call ms_L_call lkm_L_144 ⟨(Nat.le_of_ble_eq_true rfl), (Nat.le_of_ble_eq_true rfl), (Nat.le_of_ble_eq_true rfl), (Nat.le_of_ble_eq_true rfl)⟩ [0] _ (by decide : [0].Perm (List.range 1)) rfl (by decide : [0].Perm (List.range 1)) rfl (Nat.le_of_ble_eq_true rfl) rfl ?_
  refine g_cs (c' := 8) (s' := 48) rfl rfl ?_
  refine g_istore (lv' := [(0, .ref h0), (1, .int p1), (2, .int q1302.1), (3, .int q1303.1), (4, .int q1304.1), (5, .int q1305.1)]) X dL_holds_36 [1, 2, 3, 4, 5, 0] (Nat.le_of_ble_eq_true rfl) rfl ?_
  refine g_iconst X (0 : Int32) dL_holds_38 (by decide) ?_
  refine g_istore (lv' := [(0, .ref h0), (1, .int p1), (2, .int q1302.1), (3, .int q1303.1), (4, .int q1304.1), (5, .int q1305.1), (6, .int (0 : Int32))]) X dL_holds_39 [1, 2, 3, 4, 5, 6, 0] (Nat.le_of_ble_eq_true rfl) rfl ?_
  refine g_iconst X (0 : Int32) dL_holds_41 (by decide) ?_
  refine g_istore (lv' := [(0, .ref h0), (1, .int p1), (2, .int q1302.1), (3, .int q1303.1), (4, .int q1304.1), (5, .int q1305.1), (6, .int (0 : Int32)), (7, .int (0 : Int32))]) X dL_holds_42 [1, 2, 3, 4, 5, 6, 7, 0] (Nat.le_of_ble_eq_true rfl) rfl ?_
  refine g_bipush X (12 : Int32) dL_holds_44 (by decide) ?_
  refine g_newa0 (N := 12) X (fun _ => 0) rfl dL_holds_46 (by decide) (by decide) (by decide) (Nat.le_of_ble_eq_true rfl) (Nat.le_of_ble_eq_true rfl) (fun t0 => ?_)
  refine g_gs (gs' := [OB cy h0 hs ta q1305.2, AI cy 12 t0 (fun _ => (0 : Int32))]) rfl ?_
  refine g_cs (c' := 9) (s' := 60) rfl rfl ?_
  refine g_astore (lv' := [(0, .ref h0), (1, .int p1), (2, .int q1302.1), (3, .int q1303.1), (4, .int q1304.1), (5, .int q1305.1), (6, .int (0 : Int32)), (7, .int (0 : Int32)), (8, .ref t0)]) X dL_holds_48 [1, 2, 3, 4, 5, 6, 7, 8, 0] (Nat.le_of_ble_eq_true rfl) rfl ?_
  refine g_iload_n X dL_holds_50 3 rfl rfl ?_
  refine g_bipush X (6 : Int32) dL_holds_51 (by decide) ?_
  refine g_iload_n X dL_holds_53 2 rfl rfl ?_
  refine g_imul X dL_holds_54 ?_
  refine g_iconst X (3 : Int32) dL_holds_55 (by decide) ?_
  refine g_iadd X dL_holds_56 ?_
  refine g_icmp_ne X 76 dL_holds_57 (by decide) (fun c1367 => ?_) (fun c1367 => ?_)
  · have hf := oneg c1367 hf
    exact j_L_holds_b76 X hr hfl q1305.2 (fun _ => (0 : Int32)) p1 q1302.1 q1303.1 q1304.1 q1305.1 (0 : Int32) (0 : Int32) hf
  · have hf := opos c1367 hf
    refine g_iload X dL_holds_60 4 rfl ?_
    refine g_if_le X 76 dL_holds_62 (by decide) (fun c1366 => ?_) (fun c1366 => ?_)
    · have hf := opos c1366 hf
      exact j_L_holds_b76 X hr hfl q1305.2 (fun _ => (0 : Int32)) p1 q1302.1 q1303.1 q1304.1 q1305.1 (0 : Int32) (0 : Int32) hf
    · have hf := oneg c1366 hf
      refine g_iload X dL_holds_65 5 rfl ?_
      refine g_bipush X (20 : Int32) dL_holds_67 (by decide) ?_
      refine g_icmp_gt X 76 dL_holds_69 (by decide) (fun c1365 => ?_) (fun c1365 => ?_)
      · have hf := opos c1365 hf
        exact j_L_holds_b76 X hr hfl q1305.2 (fun _ => (0 : Int32)) p1 q1302.1 q1303.1 q1304.1 q1305.1 (0 : Int32) (0 : Int32) hf
      · have hf := oneg c1365 hf
        refine g_iconst X (1 : Int32) dL_holds_72 (by decide) ?_
        refine g_goto X 77 dL_holds_73 (by decide) ?_
        exact j_L_holds_b77 X hr hfl q1305.2 (fun _ => (0 : Int32)) p1 q1302.1 q1303.1 q1304.1 q1305.1 (0 : Int32) (0 : Int32) true hf
