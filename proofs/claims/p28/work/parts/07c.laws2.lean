abbrev rmL_alike : Room := ({ frames := 10, cells := 338, slots := 2028, locals := 185 } : Room)
def f_L_alike_B58_b176 (v0 : OBv) (v1 : OBv) (x2 : Int32) (x4 : Int32) (y0 : Bool) : Option ((Bool × Int32 × OBv × OBv) ⊕ ((Bool × OBv × OBv))) :=
  some (.inl (y0, (x4 + (1 : Int32)), v0, v1))
set_option maxRecDepth 100000 in
set_option maxHeartbeats 4000000 in
theorem j_L_alike_B58_b176 {p : Program} {l : Launch} {e : Env} {s : State} {m : MethodId} {args : Array Value} {below : List Frame} {meth : Method} {c : Code} {A : Nat → Prop} {D : va_G} {cy : Nat → ClassId} {ad : (Nat → Nat) × (Nat → Nat)} {Q : State → Prop} (X : gK p s m args meth c A D cy ad cL_alike 5 RL) (hr : meth.sig.returnType = (some .boolean)) (hfl : l.stackTraces = false) {cb sb : Nat} (hk1 : ∀ k, k ≤ 16 → cb + k ≤ rmL_alike.cells) (hk2 : ∀ k, k ≤ 96 → sb + k ≤ rmL_alike.slots) {h0 k0 : Nat} {hs ks : Nat → Nat} {ta tb : TAd} (v0 : OBv) (v1 : OBv) (x2 : Int32) (x4 : Int32) (y0 : Bool) {q : (Bool × Int32 × OBv × OBv) ⊕ ((Bool × OBv × OBv))} (hf : f_L_alike_B58_b176 v0 v1 x2 x4 y0 = some q) (K1 : ∀ s' : Bool × Int32 × OBv × OBv, q = .inl s' → GW p l e rmL_alike s m args below meth c A D 5 (cb + 16) (sb + 96) Q 58 [(0, .ref h0), (1, .ref k0), (2, .int x2), (3, .int (b2i s'.1)), (4, .int s'.2.1)] [] [OB cy h0 hs ta s'.2.2.1, OB cy k0 ks tb s'.2.2.2]) (K2 : ∀ e' : Bool × OBv × OBv, q = .inr (e') → GW p l e rmL_alike s m args below meth c A D 5 (cb + 16) (sb + 96) Q 183 [(3, .int (b2i e'.1))] [] [OB cy h0 hs ta e'.2.1, OB cy k0 ks tb e'.2.2]) : GW p l e rmL_alike s m args below meth c A D 5 (cb + 16) (sb + 96) Q 176 [(0, .ref h0), (1, .ref k0), (2, .int x2), (4, .int x4)] [.int (b2i y0)] [OB cy h0 hs ta v0, OB cy k0 ks tb v1] := by
  unfold f_L_alike_B58_b176 at hf
  refine g_istore_n (lv' := [(0, .ref h0), (1, .ref k0), (2, .int x2), (3, .int (b2i y0)), (4, .int x4)]) X dL_alike_176 [1, 2, 3, 0, 4] rfl (Nat.le_of_ble_eq_true rfl) rfl ?_
  refine g_iinc (lv' := [(0, .ref h0), (1, .ref k0), (2, .int x2), (3, .int (b2i y0)), (4, .int (x4 + (1 : Int32)))]) (v := (1 : Int32)) X dL_alike_177 4 rfl (by decide) [1, 2, 3, 4, 0] (Nat.le_of_ble_eq_true rfl) rfl ?_
  refine g_goto X 58 dL_alike_180 (by decide) ?_
  exact K1 (y0, (x4 + (1 : Int32)), v0, v1) (Option.some.inj hf).symm
def f_L_alike_B58_b175 (v0 : OBv) (v1 : OBv) (x2 : Int32) (x4 : Int32) : Option ((Bool × Int32 × OBv × OBv) ⊕ ((Bool × OBv × OBv))) :=
  f_L_alike_B58_b176 v0 v1 x2 x4 false
set_option maxRecDepth 100000 in
set_option maxHeartbeats 4000000 in
theorem j_L_alike_B58_b175 {p : Program} {l : Launch} {e : Env} {s : State} {m : MethodId} {args : Array Value} {below : List Frame} {meth : Method} {c : Code} {A : Nat → Prop} {D : va_G} {cy : Nat → ClassId} {ad : (Nat → Nat) × (Nat → Nat)} {Q : State → Prop} (X : gK p s m args meth c A D cy ad cL_alike 5 RL) (hr : meth.sig.returnType = (some .boolean)) (hfl : l.stackTraces = false) {cb sb : Nat} (hk1 : ∀ k, k ≤ 16 → cb + k ≤ rmL_alike.cells) (hk2 : ∀ k, k ≤ 96 → sb + k ≤ rmL_alike.slots) {h0 k0 : Nat} {hs ks : Nat → Nat} {ta tb : TAd} (v0 : OBv) (v1 : OBv) (x2 : Int32) (x4 : Int32) {q : (Bool × Int32 × OBv × OBv) ⊕ ((Bool × OBv × OBv))} (hf : f_L_alike_B58_b175 v0 v1 x2 x4 = some q) (K1 : ∀ s' : Bool × Int32 × OBv × OBv, q = .inl s' → GW p l e rmL_alike s m args below meth c A D 5 (cb + 16) (sb + 96) Q 58 [(0, .ref h0), (1, .ref k0), (2, .int x2), (3, .int (b2i s'.1)), (4, .int s'.2.1)] [] [OB cy h0 hs ta s'.2.2.1, OB cy k0 ks tb s'.2.2.2]) (K2 : ∀ e' : Bool × OBv × OBv, q = .inr (e') → GW p l e rmL_alike s m args below meth c A D 5 (cb + 16) (sb + 96) Q 183 [(3, .int (b2i e'.1))] [] [OB cy h0 hs ta e'.2.1, OB cy k0 ks tb e'.2.2]) : GW p l e rmL_alike s m args below meth c A D 5 (cb + 16) (sb + 96) Q 175 [(0, .ref h0), (1, .ref k0), (2, .int x2), (4, .int x4)] [] [OB cy h0 hs ta v0, OB cy k0 ks tb v1] := by
  unfold f_L_alike_B58_b175 at hf
  refine g_iconst X (0 : Int32) dL_alike_175 (by decide) ?_
  exact j_L_alike_B58_b176 X hr hfl hk1 hk2 v0 v1 x2 x4 false hf K1 K2
def f_L_alike_B58 (x2 : Int32) (z : Bool × Int32 × OBv × OBv) : Option ((Bool × Int32 × OBv × OBv) ⊕ ((Bool × OBv × OBv))) :=
  if (20 : Int32) ≤ z.2.1 then some (.inr ((z.1, z.2.2.1, z.2.2.2))) else if (b2i z.1) = 0 then some (.inr ((z.1, z.2.2.1, z.2.2.2))) else (f_O_call z.2.2.1 (2 : Int32) z.2.1 (0 : Int32) (0 : Int32)).bind (fun q1121 => (f_O_call z.2.2.2 (2 : Int32) z.2.1 (0 : Int32) (0 : Int32)).bind (fun q1122 => if q1121.1 = q1122.1 then (f_O_call q1121.2 (3 : Int32) z.2.1 (0 : Int32) (0 : Int32)).bind (fun q1123 => (f_O_call q1122.2 (3 : Int32) z.2.1 (0 : Int32) (0 : Int32)).bind (fun q1124 => if q1123.1 = q1124.1 then (f_O_call q1123.2 (5 : Int32) z.2.1 (x2 - x2 / (6 : Int32) * (6 : Int32)) (0 : Int32)).bind (fun q1125 => (f_O_call q1124.2 (5 : Int32) z.2.1 (x2 - x2 / (6 : Int32) * (6 : Int32)) (0 : Int32)).bind (fun q1126 => if q1125.1 = q1126.1 then (f_O_call q1125.2 (4 : Int32) (((4 : Int32) * z.2.1) + (x2 - x2 / (4 : Int32) * (4 : Int32))) (0 : Int32) (0 : Int32)).bind (fun q1127 => (f_O_call q1126.2 (4 : Int32) (((4 : Int32) * z.2.1) + (x2 - x2 / (4 : Int32) * (4 : Int32))) (0 : Int32) (0 : Int32)).bind (fun q1128 => if q1127.1 = q1128.1 then f_L_alike_B58_b176 q1127.2 q1128.2 x2 z.2.1 true else f_L_alike_B58_b175 q1127.2 q1128.2 x2 z.2.1)) else f_L_alike_B58_b175 q1125.2 q1126.2 x2 z.2.1)) else f_L_alike_B58_b175 q1123.2 q1124.2 x2 z.2.1)) else f_L_alike_B58_b175 q1121.2 q1122.2 x2 z.2.1))
set_option maxRecDepth 100000 in
set_option maxHeartbeats 4000000 in
theorem b_L_alike_B58 {p : Program} {l : Launch} {e : Env} {s : State} {m : MethodId} {args : Array Value} {below : List Frame} {meth : Method} {c : Code} {A : Nat → Prop} {D : va_G} {cy : Nat → ClassId} {ad : (Nat → Nat) × (Nat → Nat)} {Q : State → Prop} (X : gK p s m args meth c A D cy ad cL_alike 5 RL) (hr : meth.sig.returnType = (some .boolean)) (hfl : l.stackTraces = false) {cb sb : Nat} (hk1 : ∀ k, k ≤ 16 → cb + k ≤ rmL_alike.cells) (hk2 : ∀ k, k ≤ 96 → sb + k ≤ rmL_alike.slots) {h0 k0 : Nat} {hs ks : Nat → Nat} {ta tb : TAd} (x2 : Int32) (z : Bool × Int32 × OBv × OBv) {q : (Bool × Int32 × OBv × OBv) ⊕ ((Bool × OBv × OBv))} (hf : f_L_alike_B58 x2 z = some q) (K1 : ∀ s' : Bool × Int32 × OBv × OBv, q = .inl s' → GW p l e rmL_alike s m args below meth c A D 5 (cb + 16) (sb + 96) Q 58 [(0, .ref h0), (1, .ref k0), (2, .int x2), (3, .int (b2i s'.1)), (4, .int s'.2.1)] [] [OB cy h0 hs ta s'.2.2.1, OB cy k0 ks tb s'.2.2.2]) (K2 : ∀ e' : Bool × OBv × OBv, q = .inr (e') → GW p l e rmL_alike s m args below meth c A D 5 (cb + 16) (sb + 96) Q 183 [(3, .int (b2i e'.1))] [] [OB cy h0 hs ta e'.2.1, OB cy k0 ks tb e'.2.2]) : GW p l e rmL_alike s m args below meth c A D 5 cb sb Q 58 [(0, .ref h0), (1, .ref k0), (2, .int x2), (3, .int (b2i z.1)), (4, .int z.2.1)] [] [OB cy h0 hs ta z.2.2.1, OB cy k0 ks tb z.2.2.2] := by
  unfold f_L_alike_B58 at hf
  refine g_iload X dL_alike_58 4 rfl ?_
  refine g_bipush X (20 : Int32) dL_alike_60 (by decide) ?_
  refine g_icmp_ge X 183 dL_alike_62 (by decide) (fun c1134 => ?_) (fun c1134 => ?_)
  · have hf := opos c1134 hf
    refine g_widen (k := (cb + 16)) (n := (sb + 96)) (by omega) (by omega) ?_
    refine g_sub [3] (lv' := [(3, .int (b2i z.1))]) rfl ?_
    exact K2 (z.1, z.2.2.1, z.2.2.2) (Option.some.inj hf).symm
  · have hf := oneg c1134 hf
    refine g_iload_n X dL_alike_65 3 rfl rfl ?_
    refine g_if_eq X 183 dL_alike_66 (by decide) (fun c1133 => ?_) (fun c1133 => ?_)
    · have hf := opos c1133 hf
      refine g_widen (k := (cb + 16)) (n := (sb + 96)) (by omega) (by omega) ?_
      refine g_sub [3] (lv' := [(3, .int (b2i z.1))]) rfl ?_
      exact K2 (z.1, z.2.2.1, z.2.2.2) (Option.some.inj hf).symm
    · have hf := oneg c1133 hf
      refine g_aload_n X dL_alike_69 0 rfl rfl ?_
      refine g_iconst X (2 : Int32) dL_alike_70 (by decide) ?_
      refine g_iload X dL_alike_71 4 rfl ?_
      refine g_iconst X (0 : Int32) dL_alike_73 (by decide) ?_
      refine g_iconst X (0 : Int32) dL_alike_74 (by decide) ?_
      obtain ⟨q1121, hq1121, hf⟩ := obind hf
      refine g_callS (gs' := [OB cy h0 hs ta q1121.2, OB cy k0 ks tb z.2.2.2]) (rest := []) X dL_alike_75 (o_L_call l D cy ad h0 hs ta z.2.2.1 (2 : Int32) z.2.1 (0 : Int32) (0 : Int32) hfl hq1121) mf_L_call ms_L_call lkm_L_144 ⟨(Nat.le_of_ble_eq_true rfl), (Nat.le_of_ble_eq_true rfl), hk1 2 (by decide), hk2 12 (by decide)⟩ [0, 1] _ (by decide : [0, 1].Perm (List.range 2)) rfl (by decide : [0, 1].Perm (List.range 2)) rfl (Nat.le_of_ble_eq_true rfl) rfl ?_
      refine g_cs (c' := (cb + 2)) (s' := (sb + 12)) rfl rfl ?_
      refine g_aload_n X dL_alike_78 1 rfl rfl ?_
      refine g_iconst X (2 : Int32) dL_alike_79 (by decide) ?_
      refine g_iload X dL_alike_80 4 rfl ?_
      refine g_iconst X (0 : Int32) dL_alike_82 (by decide) ?_
      refine g_iconst X (0 : Int32) dL_alike_83 (by decide) ?_
      obtain ⟨q1122, hq1122, hf⟩ := obind hf
      refine g_callS (gs' := [OB cy h0 hs ta q1121.2, OB cy k0 ks tb q1122.2]) (rest := [.int q1121.1]) X dL_alike_84 (o_L_call l D cy ad k0 ks tb z.2.2.2 (2 : Int32) z.2.1 (0 : Int32) (0 : Int32) hfl hq1122) mf_L_call ms_L_call lkm_L_144 ⟨(Nat.le_of_ble_eq_true rfl), (Nat.le_of_ble_eq_true rfl), hk1 4 (by decide), hk2 24 (by decide)⟩ [1, 0] _ (by decide : [1, 0].Perm (List.range 2)) rfl (by decide : [1, 0].Perm (List.range 2)) rfl (Nat.le_of_ble_eq_true rfl) rfl ?_
      refine g_cs (c' := (cb + 4)) (s' := (sb + 24)) rfl rfl ?_
      refine g_icmp_ne X 175 dL_alike_87 (by decide) (fun c1132 => ?_) (fun c1132 => ?_)
      · have hf := oneg c1132 hf
        refine g_widen (k := (cb + 16)) (n := (sb + 96)) (by omega) (by omega) ?_
        refine g_sub [0, 1, 2, 4] (lv' := [(0, .ref h0), (1, .ref k0), (2, .int x2), (4, .int z.2.1)]) rfl ?_
        exact j_L_alike_B58_b175 X hr hfl hk1 hk2 q1121.2 q1122.2 x2 z.2.1 hf K1 K2
      · have hf := opos c1132 hf
        refine g_aload_n X dL_alike_90 0 rfl rfl ?_
        refine g_iconst X (3 : Int32) dL_alike_91 (by decide) ?_
        refine g_iload X dL_alike_92 4 rfl ?_
        refine g_iconst X (0 : Int32) dL_alike_94 (by decide) ?_
        refine g_iconst X (0 : Int32) dL_alike_95 (by decide) ?_
        obtain ⟨q1123, hq1123, hf⟩ := obind hf
        refine g_callS (gs' := [OB cy h0 hs ta q1123.2, OB cy k0 ks tb q1122.2]) (rest := []) X dL_alike_96 (o_L_call l D cy ad h0 hs ta q1121.2 (3 : Int32) z.2.1 (0 : Int32) (0 : Int32) hfl hq1123) mf_L_call ms_L_call lkm_L_144 ⟨(Nat.le_of_ble_eq_true rfl), (Nat.le_of_ble_eq_true rfl), hk1 6 (by decide), hk2 36 (by decide)⟩ [0, 1] _ (by decide : [0, 1].Perm (List.range 2)) rfl (by decide : [0, 1].Perm (List.range 2)) rfl (Nat.le_of_ble_eq_true rfl) rfl ?_
        refine g_cs (c' := (cb + 6)) (s' := (sb + 36)) rfl rfl ?_
        refine g_aload_n X dL_alike_99 1 rfl rfl ?_
        refine g_iconst X (3 : Int32) dL_alike_100 (by decide) ?_
        refine g_iload X dL_alike_101 4 rfl ?_
        refine g_iconst X (0 : Int32) dL_alike_103 (by decide) ?_
        refine g_iconst X (0 : Int32) dL_alike_104 (by decide) ?_
        obtain ⟨q1124, hq1124, hf⟩ := obind hf
        refine g_callS (gs' := [OB cy h0 hs ta q1123.2, OB cy k0 ks tb q1124.2]) (rest := [.int q1123.1]) X dL_alike_105 (o_L_call l D cy ad k0 ks tb q1122.2 (3 : Int32) z.2.1 (0 : Int32) (0 : Int32) hfl hq1124) mf_L_call ms_L_call lkm_L_144 ⟨(Nat.le_of_ble_eq_true rfl), (Nat.le_of_ble_eq_true rfl), hk1 8 (by decide), hk2 48 (by decide)⟩ [1, 0] _ (by decide : [1, 0].Perm (List.range 2)) rfl (by decide : [1, 0].Perm (List.range 2)) rfl (Nat.le_of_ble_eq_true rfl) rfl ?_
        refine g_cs (c' := (cb + 8)) (s' := (sb + 48)) rfl rfl ?_
        refine g_icmp_ne X 175 dL_alike_108 (by decide) (fun c1131 => ?_) (fun c1131 => ?_)
        · have hf := oneg c1131 hf
          refine g_widen (k := (cb + 16)) (n := (sb + 96)) (by omega) (by omega) ?_
          refine g_sub [0, 1, 2, 4] (lv' := [(0, .ref h0), (1, .ref k0), (2, .int x2), (4, .int z.2.1)]) rfl ?_
          exact j_L_alike_B58_b175 X hr hfl hk1 hk2 q1123.2 q1124.2 x2 z.2.1 hf K1 K2
        · have hf := opos c1131 hf
          refine g_aload_n X dL_alike_111 0 rfl rfl ?_
          refine g_iconst X (5 : Int32) dL_alike_112 (by decide) ?_
          refine g_iload X dL_alike_113 4 rfl ?_
          refine g_iload_n X dL_alike_115 2 rfl rfl ?_
          refine g_bipush X (6 : Int32) dL_alike_116 (by decide) ?_
          refine g_irem X dL_alike_118 (by decide) ?_
          refine g_iconst X (0 : Int32) dL_alike_119 (by decide) ?_
          obtain ⟨q1125, hq1125, hf⟩ := obind hf
          refine g_callS (gs' := [OB cy h0 hs ta q1125.2, OB cy k0 ks tb q1124.2]) (rest := []) X dL_alike_120 (o_L_call l D cy ad h0 hs ta q1123.2 (5 : Int32) z.2.1 (x2 - x2 / (6 : Int32) * (6 : Int32)) (0 : Int32) hfl hq1125) mf_L_call ms_L_call lkm_L_144 ⟨(Nat.le_of_ble_eq_true rfl), (Nat.le_of_ble_eq_true rfl), hk1 10 (by decide), hk2 60 (by decide)⟩ [0, 1] _ (by decide : [0, 1].Perm (List.range 2)) rfl (by decide : [0, 1].Perm (List.range 2)) rfl (Nat.le_of_ble_eq_true rfl) rfl ?_
          refine g_cs (c' := (cb + 10)) (s' := (sb + 60)) rfl rfl ?_
          refine g_aload_n X dL_alike_123 1 rfl rfl ?_
          refine g_iconst X (5 : Int32) dL_alike_124 (by decide) ?_
          refine g_iload X dL_alike_125 4 rfl ?_
          refine g_iload_n X dL_alike_127 2 rfl rfl ?_
          refine g_bipush X (6 : Int32) dL_alike_128 (by decide) ?_
          refine g_irem X dL_alike_130 (by decide) ?_
          refine g_iconst X (0 : Int32) dL_alike_131 (by decide) ?_
          obtain ⟨q1126, hq1126, hf⟩ := obind hf
          refine g_callS (gs' := [OB cy h0 hs ta q1125.2, OB cy k0 ks tb q1126.2]) (rest := [.int q1125.1]) X dL_alike_132 (o_L_call l D cy ad k0 ks tb q1124.2 (5 : Int32) z.2.1 (x2 - x2 / (6 : Int32) * (6 : Int32)) (0 : Int32) hfl hq1126) mf_L_call ms_L_call lkm_L_144 ⟨(Nat.le_of_ble_eq_true rfl), (Nat.le_of_ble_eq_true rfl), hk1 12 (by decide), hk2 72 (by decide)⟩ [1, 0] _ (by decide : [1, 0].Perm (List.range 2)) rfl (by decide : [1, 0].Perm (List.range 2)) rfl (Nat.le_of_ble_eq_true rfl) rfl ?_
          refine g_cs (c' := (cb + 12)) (s' := (sb + 72)) rfl rfl ?_
          refine g_icmp_ne X 175 dL_alike_135 (by decide) (fun c1130 => ?_) (fun c1130 => ?_)
          · have hf := oneg c1130 hf
            refine g_widen (k := (cb + 16)) (n := (sb + 96)) (by omega) (by omega) ?_
            refine g_sub [0, 1, 2, 4] (lv' := [(0, .ref h0), (1, .ref k0), (2, .int x2), (4, .int z.2.1)]) rfl ?_
            exact j_L_alike_B58_b175 X hr hfl hk1 hk2 q1125.2 q1126.2 x2 z.2.1 hf K1 K2
          · have hf := opos c1130 hf
            refine g_aload_n X dL_alike_138 0 rfl rfl ?_
            refine g_iconst X (4 : Int32) dL_alike_139 (by decide) ?_
            refine g_iconst X (4 : Int32) dL_alike_140 (by decide) ?_
            refine g_iload X dL_alike_141 4 rfl ?_
            refine g_imul X dL_alike_143 ?_
            refine g_iload_n X dL_alike_144 2 rfl rfl ?_
            refine g_iconst X (4 : Int32) dL_alike_145 (by decide) ?_
            refine g_irem X dL_alike_146 (by decide) ?_
            refine g_iadd X dL_alike_147 ?_
            refine g_iconst X (0 : Int32) dL_alike_148 (by decide) ?_
            refine g_iconst X (0 : Int32) dL_alike_149 (by decide) ?_
            obtain ⟨q1127, hq1127, hf⟩ := obind hf
            refine g_callS (gs' := [OB cy h0 hs ta q1127.2, OB cy k0 ks tb q1126.2]) (rest := []) X dL_alike_150 (o_L_call l D cy ad h0 hs ta q1125.2 (4 : Int32) (((4 : Int32) * z.2.1) + (x2 - x2 / (4 : Int32) * (4 : Int32))) (0 : Int32) (0 : Int32) hfl hq1127) mf_L_call ms_L_call lkm_L_144 ⟨(Nat.le_of_ble_eq_true rfl), (Nat.le_of_ble_eq_true rfl), hk1 14 (by decide), hk2 84 (by decide)⟩ [0, 1] _ (by decide : [0, 1].Perm (List.range 2)) rfl (by decide : [0, 1].Perm (List.range 2)) rfl (Nat.le_of_ble_eq_true rfl) rfl ?_
            refine g_cs (c' := (cb + 14)) (s' := (sb + 84)) rfl rfl ?_
            refine g_aload_n X dL_alike_153 1 rfl rfl ?_
            refine g_iconst X (4 : Int32) dL_alike_154 (by decide) ?_
            refine g_iconst X (4 : Int32) dL_alike_155 (by decide) ?_
            refine g_iload X dL_alike_156 4 rfl ?_
            refine g_imul X dL_alike_158 ?_
            refine g_iload_n X dL_alike_159 2 rfl rfl ?_
            refine g_iconst X (4 : Int32) dL_alike_160 (by decide) ?_
            refine g_irem X dL_alike_161 (by decide) ?_
            refine g_iadd X dL_alike_162 ?_
            refine g_iconst X (0 : Int32) dL_alike_163 (by decide) ?_
            refine g_iconst X (0 : Int32) dL_alike_164 (by decide) ?_
            obtain ⟨q1128, hq1128, hf⟩ := obind hf
            refine g_callS (gs' := [OB cy h0 hs ta q1127.2, OB cy k0 ks tb q1128.2]) (rest := [.int q1127.1]) X dL_alike_165 (o_L_call l D cy ad k0 ks tb q1126.2 (4 : Int32) (((4 : Int32) * z.2.1) + (x2 - x2 / (4 : Int32) * (4 : Int32))) (0 : Int32) (0 : Int32) hfl hq1128) mf_L_call ms_L_call lkm_L_144 ⟨(Nat.le_of_ble_eq_true rfl), (Nat.le_of_ble_eq_true rfl), hk1 16 (by decide), hk2 96 (by decide)⟩ [1, 0] _ (by decide : [1, 0].Perm (List.range 2)) rfl (by decide : [1, 0].Perm (List.range 2)) rfl (Nat.le_of_ble_eq_true rfl) rfl ?_
            refine g_cs (c' := (cb + 16)) (s' := (sb + 96)) rfl rfl ?_
            refine g_icmp_ne X 175 dL_alike_168 (by decide) (fun c1129 => ?_) (fun c1129 => ?_)
            · have hf := oneg c1129 hf
              refine g_sub [0, 1, 2, 4] (lv' := [(0, .ref h0), (1, .ref k0), (2, .int x2), (4, .int z.2.1)]) rfl ?_
              exact j_L_alike_B58_b175 X hr hfl hk1 hk2 q1127.2 q1128.2 x2 z.2.1 hf K1 K2
            · have hf := opos c1129 hf
              refine g_iconst X (1 : Int32) dL_alike_171 (by decide) ?_
              refine g_goto X 176 dL_alike_172 (by decide) ?_
              refine g_sub [0, 1, 2, 4] (lv' := [(0, .ref h0), (1, .ref k0), (2, .int x2), (4, .int z.2.1)]) rfl ?_
              exact j_L_alike_B58_b176 X hr hfl hk1 hk2 q1127.2 q1128.2 x2 z.2.1 true hf K1 K2
set_option maxRecDepth 100000 in
set_option maxHeartbeats 4000000 in
theorem w_L_alike_B58 {p : Program} {l : Launch} {e : Env} {s : State} {m : MethodId} {args : Array Value} {below : List Frame} {meth : Method} {c : Code} {A : Nat → Prop} {D : va_G} {cy : Nat → ClassId} {ad : (Nat → Nat) × (Nat → Nat)} {Q : State → Prop} (X : gK p s m args meth c A D cy ad cL_alike 5 RL) (hr : meth.sig.returnType = (some .boolean)) (hfl : l.stackTraces = false) {h0 k0 : Nat} {hs ks : Nat → Nat} {ta tb : TAd} (x2 : Int32) : ∀ {n : Nat} {cb sb : Nat} {z : Bool × Int32 × OBv × OBv} {q : (Bool × OBv × OBv)} (hf : itl (f_L_alike_B58 x2) n z = some q) (h1 : cb + n * 16 ≤ rmL_alike.cells) (h2 : sb + n * 96 ≤ rmL_alike.slots) (K : GW p l e rmL_alike s m args below meth c A D 5 (cb + n * 16) (sb + n * 96) Q 183 [(3, .int (b2i q.1))] [] [OB cy h0 hs ta q.2.1, OB cy k0 ks tb q.2.2]), GW p l e rmL_alike s m args below meth c A D 5 cb sb Q 58 [(0, .ref h0), (1, .ref k0), (2, .int x2), (3, .int (b2i z.1)), (4, .int z.2.1)] [] [OB cy h0 hs ta z.2.2.1, OB cy k0 ks tb z.2.2.2] := by
  intro n
  induction n with
  | zero => intro cb sb z q hf; exact nomatch hf
  | succ n ih =>
    intro cb sb z q hf h1 h2 K
    have e1 : cb + 16 + n * 16 = cb + (n + 1) * 16 := by rw [Nat.succ_mul]; omega
    have e2 : sb + 96 + n * 96 = sb + (n + 1) * 96 := by rw [Nat.succ_mul]; omega
    cases hq : f_L_alike_B58 x2 z with
    | none => rw [itl, hq] at hf; exact nomatch hf
    | some q9 =>
      rw [itl, hq] at hf
      refine b_L_alike_B58 X hr hfl (fun k hk => by omega) (fun k hk => by omega) x2 z hq (fun s' hs => ?_) (fun e' he => ?_)
      · subst hs
        exact ih hf (by omega) (by omega) (by rw [e1, e2]; exact K)
      · subst he
        cases (Option.some.inj hf)
        exact g_widen (by omega) (by omega) K
def f_L_alike_b54 (v0 : OBv) (v1 : OBv) (x2 : Int32) (y0 : Bool) : Option (Bool × OBv × OBv) :=
  (itl (f_L_alike_B58 x2) 21 (y0, (0 : Int32), v0, v1)).bind (fun q1136 => some (q1136.1, q1136.2.1, q1136.2.2))
set_option maxRecDepth 100000 in
set_option maxHeartbeats 4000000 in
theorem j_L_alike_b54 {p : Program} {l : Launch} {e : Env} {s : State} {m : MethodId} {args : Array Value} {below : List Frame} {meth : Method} {c : Code} {A : Nat → Prop} {D : va_G} {cy : Nat → ClassId} {ad : (Nat → Nat) × (Nat → Nat)} (X : gK p s m args meth c A D cy ad cL_alike 5 RL) (hr : meth.sig.returnType = (some .boolean)) (hfl : l.stackTraces = false) {h0 k0 : Nat} {hs ks : Nat → Nat} {ta tb : TAd} (v0 : OBv) (v1 : OBv) (x2 : Int32) (y0 : Bool) {q : Bool × OBv × OBv} (hf : f_L_alike_b54 v0 v1 x2 y0 = some q) : GW p l e rmL_alike s m args below meth c A D 5 2 12 (MQ below (cmQ D cy A (some (.int (b2i q.1))) ([OB cy h0 hs ta q.2.1, OB cy k0 ks tb q.2.2] : List va_W).flatten) args s 338 2028 A) 54 [(0, .ref h0), (1, .ref k0), (2, .int x2)] [.int (b2i y0)] [OB cy h0 hs ta v0, OB cy k0 ks tb v1] := by
  unfold f_L_alike_b54 at hf
  refine g_istore_n (lv' := [(0, .ref h0), (1, .ref k0), (2, .int x2), (3, .int (b2i y0))]) X dL_alike_54 [1, 2, 3, 0] rfl (Nat.le_of_ble_eq_true rfl) rfl ?_
  refine g_iconst X (0 : Int32) dL_alike_55 (by decide) ?_
  refine g_istore (lv' := [(0, .ref h0), (1, .ref k0), (2, .int x2), (3, .int (b2i y0)), (4, .int (0 : Int32))]) X dL_alike_56 [1, 2, 3, 4, 0] (Nat.le_of_ble_eq_true rfl) rfl ?_
  obtain ⟨q1136, hq1136, hf⟩ := obind hf
  refine w_L_alike_B58 X hr hfl x2 (n := 21) (cb := 2) (sb := 12) hq1136 (Nat.le_of_ble_eq_true rfl) (Nat.le_of_ble_eq_true rfl) ?_
  refine g_cs (c' := 338) (s' := 2028) rfl rfl ?_
  refine g_iload_n X dL_alike_183 0 rfl rfl ?_
  have hf := Option.some.inj hf
  subst hf
  exact g_zret (b := q1136.1) X hr dL_alike_184
def f_L_alike_b53 (v0 : OBv) (v1 : OBv) (x2 : Int32) : Option (Bool × OBv × OBv) :=
  f_L_alike_b54 v0 v1 x2 false
set_option maxRecDepth 100000 in
set_option maxHeartbeats 4000000 in
theorem j_L_alike_b53 {p : Program} {l : Launch} {e : Env} {s : State} {m : MethodId} {args : Array Value} {below : List Frame} {meth : Method} {c : Code} {A : Nat → Prop} {D : va_G} {cy : Nat → ClassId} {ad : (Nat → Nat) × (Nat → Nat)} (X : gK p s m args meth c A D cy ad cL_alike 5 RL) (hr : meth.sig.returnType = (some .boolean)) (hfl : l.stackTraces = false) {h0 k0 : Nat} {hs ks : Nat → Nat} {ta tb : TAd} (v0 : OBv) (v1 : OBv) (x2 : Int32) {q : Bool × OBv × OBv} (hf : f_L_alike_b53 v0 v1 x2 = some q) : GW p l e rmL_alike s m args below meth c A D 5 2 12 (MQ below (cmQ D cy A (some (.int (b2i q.1))) ([OB cy h0 hs ta q.2.1, OB cy k0 ks tb q.2.2] : List va_W).flatten) args s 338 2028 A) 53 [(0, .ref h0), (1, .ref k0), (2, .int x2)] [] [OB cy h0 hs ta v0, OB cy k0 ks tb v1] := by
  unfold f_L_alike_b53 at hf
  refine g_iconst X (0 : Int32) dL_alike_53 (by decide) ?_
  exact j_L_alike_b54 X hr hfl v0 v1 x2 false hf
def f_L_alike (v0 : OBv) (v1 : OBv) (p2 : Int32) : Option (Bool × OBv × OBv) :=
  (f_O_doSimulate v0 (p2.toInt64) ((1 : Int32) + (p2 - p2 / (20 : Int32) * (20 : Int32)))).bind (fun q1119 => (f_O_doSimulate v1 (p2.toInt64) ((1 : Int32) + (p2 - p2 / (20 : Int32) * (20 : Int32)))).bind (fun q1120 => if q1119.1 = q1120.1 then (f_X7_pans q1119.2.2.1 q1119.2.2.2.1).bind (fun q1137 => (f_X7_pans q1120.2.2.1 q1120.2.2.2.1).bind (fun q1138 => if q1137 = q1138 then (f_X7_sharpest q1119.2.2.1 q1119.2.2.2.1 q1119.2.2.2.2.1 q1119.2.2.2.2.2.2.2.2.2.2.2.2.2.2.2.2.1).bind (fun q1139 => (f_X7_sharpest q1120.2.2.1 q1120.2.2.2.1 q1120.2.2.2.2.1 q1120.2.2.2.2.2.2.2.2.2.2.2.2.2.2.2.2.1).bind (fun q1140 => if q1139.1 = q1140.1 then f_L_alike_b54 (q1119.2.1, q1119.2.2.1, q1119.2.2.2.1, q1139.2.1, q1119.2.2.2.2.2.1, q1119.2.2.2.2.2.2.1, q1119.2.2.2.2.2.2.2.1, q1119.2.2.2.2.2.2.2.2.1, q1119.2.2.2.2.2.2.2.2.2.1, q1119.2.2.2.2.2.2.2.2.2.2.1, q1119.2.2.2.2.2.2.2.2.2.2.2.1, q1119.2.2.2.2.2.2.2.2.2.2.2.2.1, q1119.2.2.2.2.2.2.2.2.2.2.2.2.2.1, q1119.2.2.2.2.2.2.2.2.2.2.2.2.2.2.1, q1119.2.2.2.2.2.2.2.2.2.2.2.2.2.2.2.1, q1139.2.2, q1119.2.2.2.2.2.2.2.2.2.2.2.2.2.2.2.2.2.1, q1119.2.2.2.2.2.2.2.2.2.2.2.2.2.2.2.2.2.2) (q1120.2.1, q1120.2.2.1, q1120.2.2.2.1, q1140.2.1, q1120.2.2.2.2.2.1, q1120.2.2.2.2.2.2.1, q1120.2.2.2.2.2.2.2.1, q1120.2.2.2.2.2.2.2.2.1, q1120.2.2.2.2.2.2.2.2.2.1, q1120.2.2.2.2.2.2.2.2.2.2.1, q1120.2.2.2.2.2.2.2.2.2.2.2.1, q1120.2.2.2.2.2.2.2.2.2.2.2.2.1, q1120.2.2.2.2.2.2.2.2.2.2.2.2.2.1, q1120.2.2.2.2.2.2.2.2.2.2.2.2.2.2.1, q1120.2.2.2.2.2.2.2.2.2.2.2.2.2.2.2.1, q1140.2.2, q1120.2.2.2.2.2.2.2.2.2.2.2.2.2.2.2.2.2.1, q1120.2.2.2.2.2.2.2.2.2.2.2.2.2.2.2.2.2.2) p2 true else f_L_alike_b53 (q1119.2.1, q1119.2.2.1, q1119.2.2.2.1, q1139.2.1, q1119.2.2.2.2.2.1, q1119.2.2.2.2.2.2.1, q1119.2.2.2.2.2.2.2.1, q1119.2.2.2.2.2.2.2.2.1, q1119.2.2.2.2.2.2.2.2.2.1, q1119.2.2.2.2.2.2.2.2.2.2.1, q1119.2.2.2.2.2.2.2.2.2.2.2.1, q1119.2.2.2.2.2.2.2.2.2.2.2.2.1, q1119.2.2.2.2.2.2.2.2.2.2.2.2.2.1, q1119.2.2.2.2.2.2.2.2.2.2.2.2.2.2.1, q1119.2.2.2.2.2.2.2.2.2.2.2.2.2.2.2.1, q1139.2.2, q1119.2.2.2.2.2.2.2.2.2.2.2.2.2.2.2.2.2.1, q1119.2.2.2.2.2.2.2.2.2.2.2.2.2.2.2.2.2.2) (q1120.2.1, q1120.2.2.1, q1120.2.2.2.1, q1140.2.1, q1120.2.2.2.2.2.1, q1120.2.2.2.2.2.2.1, q1120.2.2.2.2.2.2.2.1, q1120.2.2.2.2.2.2.2.2.1, q1120.2.2.2.2.2.2.2.2.2.1, q1120.2.2.2.2.2.2.2.2.2.2.1, q1120.2.2.2.2.2.2.2.2.2.2.2.1, q1120.2.2.2.2.2.2.2.2.2.2.2.2.1, q1120.2.2.2.2.2.2.2.2.2.2.2.2.2.1, q1120.2.2.2.2.2.2.2.2.2.2.2.2.2.2.1, q1120.2.2.2.2.2.2.2.2.2.2.2.2.2.2.2.1, q1140.2.2, q1120.2.2.2.2.2.2.2.2.2.2.2.2.2.2.2.2.2.1, q1120.2.2.2.2.2.2.2.2.2.2.2.2.2.2.2.2.2.2) p2)) else f_L_alike_b53 q1119.2 q1120.2 p2)) else f_L_alike_b53 q1119.2 q1120.2 p2))
set_option maxRecDepth 100000 in
set_option maxHeartbeats 4000000 in
theorem c_L_alike (l : Launch) (D : va_G) (cy : Nat → ClassId) (ad : (Nat → Nat) × (Nat → Nat)) (h0 : Nat) (hs : Nat → Nat) (ta : TAd) (k0 : Nat) (ks : Nat → Nat) (tb : TAd) (v0 : OBv) (v1 : OBv) (p2 : Int32) (hfl : l.stackTraces = false) {q : Bool × OBv × OBv} (hf : f_L_alike v0 v1 p2 = some q) : CM l yL_alike cL_alike 5 (some .boolean) rmL_alike D cy ad [.ref h0, .ref k0, .int p2] [OB cy h0 hs ta v0, OB cy k0 ks tb v1] (some (.int (b2i q.1))) [OB cy h0 hs ta q.2.1, OB cy k0 ks tb q.2.2] := by
  refine cm_of (lv0 := [(0, .ref h0), (1, .ref k0), (2, .int p2)]) (by decide) (Nat.le_of_ble_eq_true rfl) rfl ?_
  intro p e s m args below meth c A X hr hn
  have X : gK p s m args meth c A D cy ad cL_alike 5 RL := X
  unfold f_L_alike at hf
  refine g_aload_n X dL_alike_0 0 rfl rfl ?_
  refine g_iload_n X dL_alike_1 2 rfl rfl ?_
  refine g_i2l X dL_alike_2 ?_
  refine g_iconst X (1 : Int32) dL_alike_3 (by decide) ?_
  refine g_iload_n X dL_alike_4 2 rfl rfl ?_
  refine g_bipush X (20 : Int32) dL_alike_5 (by decide) ?_
  refine g_irem X dL_alike_7 (by decide) ?_
  refine g_iadd X dL_alike_8 ?_
  obtain ⟨q1119, hq1119, hf⟩ := obind hf
  refine g_callSW (gs' := [OB cy h0 hs ta q1119.2, OB cy k0 ks tb v1]) (rest := []) X dL_alike_9 (o_L_doSimulate l D cy ad h0 hs ta v0 (p2.toInt64) ((1 : Int32) + (p2 - p2 / (20 : Int32) * (20 : Int32))) hfl hq1119) mfw_L_doSimulate ms_L_doSimulate lkm_L_158 ⟨(Nat.le_of_ble_eq_true rfl), (Nat.le_of_ble_eq_true rfl), (Nat.le_of_ble_eq_true rfl), (Nat.le_of_ble_eq_true rfl)⟩ [0, 1] _ (by decide : [0, 1].Perm (List.range 2)) rfl (by decide : [0, 1].Perm (List.range 2)) rfl (Nat.le_of_ble_eq_true rfl) rfl ?_
  refine g_cs (c' := 1) (s' := 6) rfl rfl ?_
  refine g_aload_n X dL_alike_12 1 rfl rfl ?_
  refine g_iload_n X dL_alike_13 2 rfl rfl ?_
  refine g_i2l X dL_alike_14 ?_
  refine g_iconst X (1 : Int32) dL_alike_15 (by decide) ?_
  refine g_iload_n X dL_alike_16 2 rfl rfl ?_
  refine g_bipush X (20 : Int32) dL_alike_17 (by decide) ?_
  refine g_irem X dL_alike_19 (by decide) ?_
  refine g_iadd X dL_alike_20 ?_
  obtain ⟨q1120, hq1120, hf⟩ := obind hf
  refine g_callSW (gs' := [OB cy h0 hs ta q1119.2, OB cy k0 ks tb q1120.2]) (rest := [.int q1119.1]) X dL_alike_21 (o_L_doSimulate l D cy ad k0 ks tb v1 (p2.toInt64) ((1 : Int32) + (p2 - p2 / (20 : Int32) * (20 : Int32))) hfl hq1120) mfw_L_doSimulate ms_L_doSimulate lkm_L_158 ⟨(Nat.le_of_ble_eq_true rfl), (Nat.le_of_ble_eq_true rfl), (Nat.le_of_ble_eq_true rfl), (Nat.le_of_ble_eq_true rfl)⟩ [1, 0] _ (by decide : [1, 0].Perm (List.range 2)) rfl (by decide : [1, 0].Perm (List.range 2)) rfl (Nat.le_of_ble_eq_true rfl) rfl ?_
  refine g_cs (c' := 2) (s' := 12) rfl rfl ?_
  refine g_icmp_ne X 53 dL_alike_24 (by decide) (fun c1143 => ?_) (fun c1143 => ?_)
  · have hf := oneg c1143 hf
    exact j_L_alike_b53 X hr hfl q1119.2 q1120.2 p2 hf
  · have hf := opos c1143 hf
    refine g_aload_n X dL_alike_27 0 rfl rfl ?_
    obtain ⟨q1137, hq1137, hf⟩ := obind hf
    refine g_regroup (gs' := [FP h0 (hs 1) (hs 2) (hs 3) (hs 4) (hs 5) (hs 6) (hs 7) (hs 8) (hs 9), TX cy (hs 1) (hs 10) q1119.2.1, TB cy (hs 2) (hs 11) (hs 12) (hs 13) q1119.2.2.1, SU cy (hs 12) (hs 14) q1119.2.2.2.1, SC (hs 13) q1119.2.2.2.2.1, TB cy (hs 3) (hs 15) (hs 16) (hs 17) q1119.2.2.2.2.2.1, SU cy (hs 16) (hs 18) q1119.2.2.2.2.2.2.1, SC (hs 17) q1119.2.2.2.2.2.2.2.1, HI (hs 4) (hs 19) q1119.2.2.2.2.2.2.2.2.1, HR cy (hs 19) ta q1119.2.2.2.2.2.2.2.2.2.1, SL (hs 5) (hs 20) q1119.2.2.2.2.2.2.2.2.2.2.1, TB cy (hs 20) (hs 21) (hs 22) (hs 23) q1119.2.2.2.2.2.2.2.2.2.2.2.1, SU cy (hs 22) (hs 24) q1119.2.2.2.2.2.2.2.2.2.2.2.2.1, SL (hs 6) (hs 25) q1119.2.2.2.2.2.2.2.2.2.2.2.2.2.1, TB cy (hs 25) (hs 26) (hs 27) (hs 28) q1119.2.2.2.2.2.2.2.2.2.2.2.2.2.2.1, SU cy (hs 27) (hs 29) q1119.2.2.2.2.2.2.2.2.2.2.2.2.2.2.2.1, TA (hs 7) q1119.2.2.2.2.2.2.2.2.2.2.2.2.2.2.2.2.1, AI cy 12 (hs 8) q1119.2.2.2.2.2.2.2.2.2.2.2.2.2.2.2.2.2.1, AI cy 66 (hs 9) q1119.2.2.2.2.2.2.2.2.2.2.2.2.2.2.2.2.2.2, OB cy k0 ks tb q1120.2]) (ob_split (pre := []) (g := [FP h0 (hs 1) (hs 2) (hs 3) (hs 4) (hs 5) (hs 6) (hs 7) (hs 8) (hs 9), TX cy (hs 1) (hs 10) q1119.2.1, TB cy (hs 2) (hs 11) (hs 12) (hs 13) q1119.2.2.1, SU cy (hs 12) (hs 14) q1119.2.2.2.1, SC (hs 13) q1119.2.2.2.2.1, TB cy (hs 3) (hs 15) (hs 16) (hs 17) q1119.2.2.2.2.2.1, SU cy (hs 16) (hs 18) q1119.2.2.2.2.2.2.1, SC (hs 17) q1119.2.2.2.2.2.2.2.1, HI (hs 4) (hs 19) q1119.2.2.2.2.2.2.2.2.1, HR cy (hs 19) ta q1119.2.2.2.2.2.2.2.2.2.1, SL (hs 5) (hs 20) q1119.2.2.2.2.2.2.2.2.2.2.1, TB cy (hs 20) (hs 21) (hs 22) (hs 23) q1119.2.2.2.2.2.2.2.2.2.2.2.1, SU cy (hs 22) (hs 24) q1119.2.2.2.2.2.2.2.2.2.2.2.2.1, SL (hs 6) (hs 25) q1119.2.2.2.2.2.2.2.2.2.2.2.2.2.1, TB cy (hs 25) (hs 26) (hs 27) (hs 28) q1119.2.2.2.2.2.2.2.2.2.2.2.2.2.2.1, SU cy (hs 27) (hs 29) q1119.2.2.2.2.2.2.2.2.2.2.2.2.2.2.2.1, TA (hs 7) q1119.2.2.2.2.2.2.2.2.2.2.2.2.2.2.2.2.1, AI cy 12 (hs 8) q1119.2.2.2.2.2.2.2.2.2.2.2.2.2.2.2.2.2.1, AI cy 66 (hs 9) q1119.2.2.2.2.2.2.2.2.2.2.2.2.2.2.2.2.2.2]) (r := [OB cy k0 ks tb q1120.2])) ?_
    refine g_callV (gs' := [FP h0 (hs 1) (hs 2) (hs 3) (hs 4) (hs 5) (hs 6) (hs 7) (hs 8) (hs 9), TX cy (hs 1) (hs 10) q1119.2.1, TB cy (hs 2) (hs 11) (hs 12) (hs 13) q1119.2.2.1, SU cy (hs 12) (hs 14) q1119.2.2.2.1, SC (hs 13) q1119.2.2.2.2.1, TB cy (hs 3) (hs 15) (hs 16) (hs 17) q1119.2.2.2.2.2.1, SU cy (hs 16) (hs 18) q1119.2.2.2.2.2.2.1, SC (hs 17) q1119.2.2.2.2.2.2.2.1, HI (hs 4) (hs 19) q1119.2.2.2.2.2.2.2.2.1, HR cy (hs 19) ta q1119.2.2.2.2.2.2.2.2.2.1, SL (hs 5) (hs 20) q1119.2.2.2.2.2.2.2.2.2.2.1, TB cy (hs 20) (hs 21) (hs 22) (hs 23) q1119.2.2.2.2.2.2.2.2.2.2.2.1, SU cy (hs 22) (hs 24) q1119.2.2.2.2.2.2.2.2.2.2.2.2.1, SL (hs 6) (hs 25) q1119.2.2.2.2.2.2.2.2.2.2.2.2.2.1, TB cy (hs 25) (hs 26) (hs 27) (hs 28) q1119.2.2.2.2.2.2.2.2.2.2.2.2.2.2.1, SU cy (hs 27) (hs 29) q1119.2.2.2.2.2.2.2.2.2.2.2.2.2.2.2.1, TA (hs 7) q1119.2.2.2.2.2.2.2.2.2.2.2.2.2.2.2.2.1, AI cy 12 (hs 8) q1119.2.2.2.2.2.2.2.2.2.2.2.2.2.2.2.2.2.1, AI cy 66 (hs 9) q1119.2.2.2.2.2.2.2.2.2.2.2.2.2.2.2.2.2.2, OB cy k0 ks tb q1120.2]) (rest := []) X dL_alike_28 (c_X7_pans l D cy ad h0 (hs 1) (hs 2) (hs 3) (hs 4) (hs 5) (hs 6) (hs 7) (hs 8) (hs 9) (hs 11) (hs 12) (hs 13) (hs 14) q1119.2.2.1 q1119.2.2.2.1 hq1137) mf_X7_pans mv_X7_pans lkm_L_168 ⟨(Nat.le_of_ble_eq_true rfl), (Nat.le_of_ble_eq_true rfl), (Nat.le_of_ble_eq_true rfl), (Nat.le_of_ble_eq_true rfl)⟩ 0 0 rfl rfl rfl rfl [0, 2, 3, 1, 4, 5, 6, 7, 8, 9, 10, 11, 12, 13, 14, 15, 16, 17, 18, 19] _ (by decide : [0, 2, 3, 1, 4, 5, 6, 7, 8, 9, 10, 11, 12, 13, 14, 15, 16, 17, 18, 19].Perm (List.range 20)) rfl (by decide : [0, 2, 3, 1, 4, 5, 6, 7, 8, 9, 10, 11, 12, 13, 14, 15, 16, 17, 18, 19].Perm (List.range 20)) rfl (Nat.le_of_ble_eq_true rfl) rfl ?_
    refine g_regroup (gs' := [OB cy h0 hs ta q1119.2, OB cy k0 ks tb q1120.2]) (ob_split (pre := []) (g := [FP h0 (hs 1) (hs 2) (hs 3) (hs 4) (hs 5) (hs 6) (hs 7) (hs 8) (hs 9), TX cy (hs 1) (hs 10) q1119.2.1, TB cy (hs 2) (hs 11) (hs 12) (hs 13) q1119.2.2.1, SU cy (hs 12) (hs 14) q1119.2.2.2.1, SC (hs 13) q1119.2.2.2.2.1, TB cy (hs 3) (hs 15) (hs 16) (hs 17) q1119.2.2.2.2.2.1, SU cy (hs 16) (hs 18) q1119.2.2.2.2.2.2.1, SC (hs 17) q1119.2.2.2.2.2.2.2.1, HI (hs 4) (hs 19) q1119.2.2.2.2.2.2.2.2.1, HR cy (hs 19) ta q1119.2.2.2.2.2.2.2.2.2.1, SL (hs 5) (hs 20) q1119.2.2.2.2.2.2.2.2.2.2.1, TB cy (hs 20) (hs 21) (hs 22) (hs 23) q1119.2.2.2.2.2.2.2.2.2.2.2.1, SU cy (hs 22) (hs 24) q1119.2.2.2.2.2.2.2.2.2.2.2.2.1, SL (hs 6) (hs 25) q1119.2.2.2.2.2.2.2.2.2.2.2.2.2.1, TB cy (hs 25) (hs 26) (hs 27) (hs 28) q1119.2.2.2.2.2.2.2.2.2.2.2.2.2.2.1, SU cy (hs 27) (hs 29) q1119.2.2.2.2.2.2.2.2.2.2.2.2.2.2.2.1, TA (hs 7) q1119.2.2.2.2.2.2.2.2.2.2.2.2.2.2.2.2.1, AI cy 12 (hs 8) q1119.2.2.2.2.2.2.2.2.2.2.2.2.2.2.2.2.2.1, AI cy 66 (hs 9) q1119.2.2.2.2.2.2.2.2.2.2.2.2.2.2.2.2.2.2]) (r := [OB cy k0 ks tb q1120.2])).symm ?_
    refine g_aload_n X dL_alike_31 1 rfl rfl ?_
    obtain ⟨q1138, hq1138, hf⟩ := obind hf
    refine g_regroup (gs' := [OB cy h0 hs ta q1119.2, FP k0 (ks 1) (ks 2) (ks 3) (ks 4) (ks 5) (ks 6) (ks 7) (ks 8) (ks 9), TX cy (ks 1) (ks 10) q1120.2.1, TB cy (ks 2) (ks 11) (ks 12) (ks 13) q1120.2.2.1, SU cy (ks 12) (ks 14) q1120.2.2.2.1, SC (ks 13) q1120.2.2.2.2.1, TB cy (ks 3) (ks 15) (ks 16) (ks 17) q1120.2.2.2.2.2.1, SU cy (ks 16) (ks 18) q1120.2.2.2.2.2.2.1, SC (ks 17) q1120.2.2.2.2.2.2.2.1, HI (ks 4) (ks 19) q1120.2.2.2.2.2.2.2.2.1, HR cy (ks 19) tb q1120.2.2.2.2.2.2.2.2.2.1, SL (ks 5) (ks 20) q1120.2.2.2.2.2.2.2.2.2.2.1, TB cy (ks 20) (ks 21) (ks 22) (ks 23) q1120.2.2.2.2.2.2.2.2.2.2.2.1, SU cy (ks 22) (ks 24) q1120.2.2.2.2.2.2.2.2.2.2.2.2.1, SL (ks 6) (ks 25) q1120.2.2.2.2.2.2.2.2.2.2.2.2.2.1, TB cy (ks 25) (ks 26) (ks 27) (ks 28) q1120.2.2.2.2.2.2.2.2.2.2.2.2.2.2.1, SU cy (ks 27) (ks 29) q1120.2.2.2.2.2.2.2.2.2.2.2.2.2.2.2.1, TA (ks 7) q1120.2.2.2.2.2.2.2.2.2.2.2.2.2.2.2.2.1, AI cy 12 (ks 8) q1120.2.2.2.2.2.2.2.2.2.2.2.2.2.2.2.2.2.1, AI cy 66 (ks 9) q1120.2.2.2.2.2.2.2.2.2.2.2.2.2.2.2.2.2.2]) (ob_split (pre := [OB cy h0 hs ta q1119.2]) (g := [FP k0 (ks 1) (ks 2) (ks 3) (ks 4) (ks 5) (ks 6) (ks 7) (ks 8) (ks 9), TX cy (ks 1) (ks 10) q1120.2.1, TB cy (ks 2) (ks 11) (ks 12) (ks 13) q1120.2.2.1, SU cy (ks 12) (ks 14) q1120.2.2.2.1, SC (ks 13) q1120.2.2.2.2.1, TB cy (ks 3) (ks 15) (ks 16) (ks 17) q1120.2.2.2.2.2.1, SU cy (ks 16) (ks 18) q1120.2.2.2.2.2.2.1, SC (ks 17) q1120.2.2.2.2.2.2.2.1, HI (ks 4) (ks 19) q1120.2.2.2.2.2.2.2.2.1, HR cy (ks 19) tb q1120.2.2.2.2.2.2.2.2.2.1, SL (ks 5) (ks 20) q1120.2.2.2.2.2.2.2.2.2.2.1, TB cy (ks 20) (ks 21) (ks 22) (ks 23) q1120.2.2.2.2.2.2.2.2.2.2.2.1, SU cy (ks 22) (ks 24) q1120.2.2.2.2.2.2.2.2.2.2.2.2.1, SL (ks 6) (ks 25) q1120.2.2.2.2.2.2.2.2.2.2.2.2.2.1, TB cy (ks 25) (ks 26) (ks 27) (ks 28) q1120.2.2.2.2.2.2.2.2.2.2.2.2.2.2.1, SU cy (ks 27) (ks 29) q1120.2.2.2.2.2.2.2.2.2.2.2.2.2.2.2.1, TA (ks 7) q1120.2.2.2.2.2.2.2.2.2.2.2.2.2.2.2.2.1, AI cy 12 (ks 8) q1120.2.2.2.2.2.2.2.2.2.2.2.2.2.2.2.2.2.1, AI cy 66 (ks 9) q1120.2.2.2.2.2.2.2.2.2.2.2.2.2.2.2.2.2.2]) (r := [])) ?_
    refine g_callV (gs' := [OB cy h0 hs ta q1119.2, FP k0 (ks 1) (ks 2) (ks 3) (ks 4) (ks 5) (ks 6) (ks 7) (ks 8) (ks 9), TX cy (ks 1) (ks 10) q1120.2.1, TB cy (ks 2) (ks 11) (ks 12) (ks 13) q1120.2.2.1, SU cy (ks 12) (ks 14) q1120.2.2.2.1, SC (ks 13) q1120.2.2.2.2.1, TB cy (ks 3) (ks 15) (ks 16) (ks 17) q1120.2.2.2.2.2.1, SU cy (ks 16) (ks 18) q1120.2.2.2.2.2.2.1, SC (ks 17) q1120.2.2.2.2.2.2.2.1, HI (ks 4) (ks 19) q1120.2.2.2.2.2.2.2.2.1, HR cy (ks 19) tb q1120.2.2.2.2.2.2.2.2.2.1, SL (ks 5) (ks 20) q1120.2.2.2.2.2.2.2.2.2.2.1, TB cy (ks 20) (ks 21) (ks 22) (ks 23) q1120.2.2.2.2.2.2.2.2.2.2.2.1, SU cy (ks 22) (ks 24) q1120.2.2.2.2.2.2.2.2.2.2.2.2.1, SL (ks 6) (ks 25) q1120.2.2.2.2.2.2.2.2.2.2.2.2.2.1, TB cy (ks 25) (ks 26) (ks 27) (ks 28) q1120.2.2.2.2.2.2.2.2.2.2.2.2.2.2.1, SU cy (ks 27) (ks 29) q1120.2.2.2.2.2.2.2.2.2.2.2.2.2.2.2.1, TA (ks 7) q1120.2.2.2.2.2.2.2.2.2.2.2.2.2.2.2.2.1, AI cy 12 (ks 8) q1120.2.2.2.2.2.2.2.2.2.2.2.2.2.2.2.2.2.1, AI cy 66 (ks 9) q1120.2.2.2.2.2.2.2.2.2.2.2.2.2.2.2.2.2.2]) (rest := [.int q1137]) X dL_alike_32 (c_X7_pans l D cy ad k0 (ks 1) (ks 2) (ks 3) (ks 4) (ks 5) (ks 6) (ks 7) (ks 8) (ks 9) (ks 11) (ks 12) (ks 13) (ks 14) q1120.2.2.1 q1120.2.2.2.1 hq1138) mf_X7_pans mv_X7_pans lkm_L_168 ⟨(Nat.le_of_ble_eq_true rfl), (Nat.le_of_ble_eq_true rfl), (Nat.le_of_ble_eq_true rfl), (Nat.le_of_ble_eq_true rfl)⟩ 1 0 rfl rfl rfl rfl [1, 3, 4, 0, 2, 5, 6, 7, 8, 9, 10, 11, 12, 13, 14, 15, 16, 17, 18, 19] _ (by decide : [1, 3, 4, 0, 2, 5, 6, 7, 8, 9, 10, 11, 12, 13, 14, 15, 16, 17, 18, 19].Perm (List.range 20)) rfl (by decide : [1, 3, 4, 0, 2, 5, 6, 7, 8, 9, 10, 11, 12, 13, 14, 15, 16, 17, 18, 19].Perm (List.range 20)) rfl (Nat.le_of_ble_eq_true rfl) rfl ?_
    refine g_regroup (gs' := [OB cy h0 hs ta q1119.2, OB cy k0 ks tb q1120.2]) (ob_split (pre := [OB cy h0 hs ta q1119.2]) (g := [FP k0 (ks 1) (ks 2) (ks 3) (ks 4) (ks 5) (ks 6) (ks 7) (ks 8) (ks 9), TX cy (ks 1) (ks 10) q1120.2.1, TB cy (ks 2) (ks 11) (ks 12) (ks 13) q1120.2.2.1, SU cy (ks 12) (ks 14) q1120.2.2.2.1, SC (ks 13) q1120.2.2.2.2.1, TB cy (ks 3) (ks 15) (ks 16) (ks 17) q1120.2.2.2.2.2.1, SU cy (ks 16) (ks 18) q1120.2.2.2.2.2.2.1, SC (ks 17) q1120.2.2.2.2.2.2.2.1, HI (ks 4) (ks 19) q1120.2.2.2.2.2.2.2.2.1, HR cy (ks 19) tb q1120.2.2.2.2.2.2.2.2.2.1, SL (ks 5) (ks 20) q1120.2.2.2.2.2.2.2.2.2.2.1, TB cy (ks 20) (ks 21) (ks 22) (ks 23) q1120.2.2.2.2.2.2.2.2.2.2.2.1, SU cy (ks 22) (ks 24) q1120.2.2.2.2.2.2.2.2.2.2.2.2.1, SL (ks 6) (ks 25) q1120.2.2.2.2.2.2.2.2.2.2.2.2.2.1, TB cy (ks 25) (ks 26) (ks 27) (ks 28) q1120.2.2.2.2.2.2.2.2.2.2.2.2.2.2.1, SU cy (ks 27) (ks 29) q1120.2.2.2.2.2.2.2.2.2.2.2.2.2.2.2.1, TA (ks 7) q1120.2.2.2.2.2.2.2.2.2.2.2.2.2.2.2.2.1, AI cy 12 (ks 8) q1120.2.2.2.2.2.2.2.2.2.2.2.2.2.2.2.2.2.1, AI cy 66 (ks 9) q1120.2.2.2.2.2.2.2.2.2.2.2.2.2.2.2.2.2.2]) (r := [])).symm ?_
    refine g_icmp_ne X 53 dL_alike_35 (by decide) (fun c1142 => ?_) (fun c1142 => ?_)
    · have hf := oneg c1142 hf
      exact j_L_alike_b53 X hr hfl q1119.2 q1120.2 p2 hf
    · have hf := opos c1142 hf
      refine g_aload_n X dL_alike_38 0 rfl rfl ?_
      obtain ⟨q1139, hq1139, hf⟩ := obind hf
      refine g_regroup (gs' := [FP h0 (hs 1) (hs 2) (hs 3) (hs 4) (hs 5) (hs 6) (hs 7) (hs 8) (hs 9), TX cy (hs 1) (hs 10) q1119.2.1, TB cy (hs 2) (hs 11) (hs 12) (hs 13) q1119.2.2.1, SU cy (hs 12) (hs 14) q1119.2.2.2.1, SC (hs 13) q1119.2.2.2.2.1, TB cy (hs 3) (hs 15) (hs 16) (hs 17) q1119.2.2.2.2.2.1, SU cy (hs 16) (hs 18) q1119.2.2.2.2.2.2.1, SC (hs 17) q1119.2.2.2.2.2.2.2.1, HI (hs 4) (hs 19) q1119.2.2.2.2.2.2.2.2.1, HR cy (hs 19) ta q1119.2.2.2.2.2.2.2.2.2.1, SL (hs 5) (hs 20) q1119.2.2.2.2.2.2.2.2.2.2.1, TB cy (hs 20) (hs 21) (hs 22) (hs 23) q1119.2.2.2.2.2.2.2.2.2.2.2.1, SU cy (hs 22) (hs 24) q1119.2.2.2.2.2.2.2.2.2.2.2.2.1, SL (hs 6) (hs 25) q1119.2.2.2.2.2.2.2.2.2.2.2.2.2.1, TB cy (hs 25) (hs 26) (hs 27) (hs 28) q1119.2.2.2.2.2.2.2.2.2.2.2.2.2.2.1, SU cy (hs 27) (hs 29) q1119.2.2.2.2.2.2.2.2.2.2.2.2.2.2.2.1, TA (hs 7) q1119.2.2.2.2.2.2.2.2.2.2.2.2.2.2.2.2.1, AI cy 12 (hs 8) q1119.2.2.2.2.2.2.2.2.2.2.2.2.2.2.2.2.2.1, AI cy 66 (hs 9) q1119.2.2.2.2.2.2.2.2.2.2.2.2.2.2.2.2.2.2, OB cy k0 ks tb q1120.2]) (ob_split (pre := []) (g := [FP h0 (hs 1) (hs 2) (hs 3) (hs 4) (hs 5) (hs 6) (hs 7) (hs 8) (hs 9), TX cy (hs 1) (hs 10) q1119.2.1, TB cy (hs 2) (hs 11) (hs 12) (hs 13) q1119.2.2.1, SU cy (hs 12) (hs 14) q1119.2.2.2.1, SC (hs 13) q1119.2.2.2.2.1, TB cy (hs 3) (hs 15) (hs 16) (hs 17) q1119.2.2.2.2.2.1, SU cy (hs 16) (hs 18) q1119.2.2.2.2.2.2.1, SC (hs 17) q1119.2.2.2.2.2.2.2.1, HI (hs 4) (hs 19) q1119.2.2.2.2.2.2.2.2.1, HR cy (hs 19) ta q1119.2.2.2.2.2.2.2.2.2.1, SL (hs 5) (hs 20) q1119.2.2.2.2.2.2.2.2.2.2.1, TB cy (hs 20) (hs 21) (hs 22) (hs 23) q1119.2.2.2.2.2.2.2.2.2.2.2.1, SU cy (hs 22) (hs 24) q1119.2.2.2.2.2.2.2.2.2.2.2.2.1, SL (hs 6) (hs 25) q1119.2.2.2.2.2.2.2.2.2.2.2.2.2.1, TB cy (hs 25) (hs 26) (hs 27) (hs 28) q1119.2.2.2.2.2.2.2.2.2.2.2.2.2.2.1, SU cy (hs 27) (hs 29) q1119.2.2.2.2.2.2.2.2.2.2.2.2.2.2.2.1, TA (hs 7) q1119.2.2.2.2.2.2.2.2.2.2.2.2.2.2.2.2.1, AI cy 12 (hs 8) q1119.2.2.2.2.2.2.2.2.2.2.2.2.2.2.2.2.2.1, AI cy 66 (hs 9) q1119.2.2.2.2.2.2.2.2.2.2.2.2.2.2.2.2.2.2]) (r := [OB cy k0 ks tb q1120.2])) ?_
      refine g_callV (gs' := [FP h0 (hs 1) (hs 2) (hs 3) (hs 4) (hs 5) (hs 6) (hs 7) (hs 8) (hs 9), TX cy (hs 1) (hs 10) q1119.2.1, TB cy (hs 2) (hs 11) (hs 12) (hs 13) q1119.2.2.1, SU cy (hs 12) (hs 14) q1119.2.2.2.1, SC (hs 13) q1139.2.1, TB cy (hs 3) (hs 15) (hs 16) (hs 17) q1119.2.2.2.2.2.1, SU cy (hs 16) (hs 18) q1119.2.2.2.2.2.2.1, SC (hs 17) q1119.2.2.2.2.2.2.2.1, HI (hs 4) (hs 19) q1119.2.2.2.2.2.2.2.2.1, HR cy (hs 19) ta q1119.2.2.2.2.2.2.2.2.2.1, SL (hs 5) (hs 20) q1119.2.2.2.2.2.2.2.2.2.2.1, TB cy (hs 20) (hs 21) (hs 22) (hs 23) q1119.2.2.2.2.2.2.2.2.2.2.2.1, SU cy (hs 22) (hs 24) q1119.2.2.2.2.2.2.2.2.2.2.2.2.1, SL (hs 6) (hs 25) q1119.2.2.2.2.2.2.2.2.2.2.2.2.2.1, TB cy (hs 25) (hs 26) (hs 27) (hs 28) q1119.2.2.2.2.2.2.2.2.2.2.2.2.2.2.1, SU cy (hs 27) (hs 29) q1119.2.2.2.2.2.2.2.2.2.2.2.2.2.2.2.1, TA (hs 7) q1139.2.2, AI cy 12 (hs 8) q1119.2.2.2.2.2.2.2.2.2.2.2.2.2.2.2.2.2.1, AI cy 66 (hs 9) q1119.2.2.2.2.2.2.2.2.2.2.2.2.2.2.2.2.2.2, OB cy k0 ks tb q1120.2]) (rest := []) X dL_alike_39 (c_X7_sharpest l D cy ad h0 (hs 1) (hs 2) (hs 3) (hs 4) (hs 5) (hs 6) (hs 7) (hs 8) (hs 9) (hs 11) (hs 12) (hs 13) (hs 14) q1119.2.2.1 q1119.2.2.2.1 q1119.2.2.2.2.1 q1119.2.2.2.2.2.2.2.2.2.2.2.2.2.2.2.2.1 hq1139) mf_X7_sharpest mv_X7_sharpest lkm_L_165 ⟨(Nat.le_of_ble_eq_true rfl), (Nat.le_of_ble_eq_true rfl), (Nat.le_of_ble_eq_true rfl), (Nat.le_of_ble_eq_true rfl)⟩ 0 0 rfl rfl rfl rfl [0, 2, 3, 4, 16, 1, 5, 6, 7, 8, 9, 10, 11, 12, 13, 14, 15, 17, 18, 19] _ (by decide : [0, 2, 3, 4, 16, 1, 5, 6, 7, 8, 9, 10, 11, 12, 13, 14, 15, 17, 18, 19].Perm (List.range 20)) rfl (by decide : [0, 2, 3, 4, 16, 1, 5, 6, 7, 8, 9, 10, 11, 12, 13, 14, 15, 17, 18, 19].Perm (List.range 20)) rfl (Nat.le_of_ble_eq_true rfl) rfl ?_
      refine g_regroup (gs' := [OB cy h0 hs ta (q1119.2.1, q1119.2.2.1, q1119.2.2.2.1, q1139.2.1, q1119.2.2.2.2.2.1, q1119.2.2.2.2.2.2.1, q1119.2.2.2.2.2.2.2.1, q1119.2.2.2.2.2.2.2.2.1, q1119.2.2.2.2.2.2.2.2.2.1, q1119.2.2.2.2.2.2.2.2.2.2.1, q1119.2.2.2.2.2.2.2.2.2.2.2.1, q1119.2.2.2.2.2.2.2.2.2.2.2.2.1, q1119.2.2.2.2.2.2.2.2.2.2.2.2.2.1, q1119.2.2.2.2.2.2.2.2.2.2.2.2.2.2.1, q1119.2.2.2.2.2.2.2.2.2.2.2.2.2.2.2.1, q1139.2.2, q1119.2.2.2.2.2.2.2.2.2.2.2.2.2.2.2.2.2.1, q1119.2.2.2.2.2.2.2.2.2.2.2.2.2.2.2.2.2.2), OB cy k0 ks tb q1120.2]) (ob_split (pre := []) (g := [FP h0 (hs 1) (hs 2) (hs 3) (hs 4) (hs 5) (hs 6) (hs 7) (hs 8) (hs 9), TX cy (hs 1) (hs 10) q1119.2.1, TB cy (hs 2) (hs 11) (hs 12) (hs 13) q1119.2.2.1, SU cy (hs 12) (hs 14) q1119.2.2.2.1, SC (hs 13) q1139.2.1, TB cy (hs 3) (hs 15) (hs 16) (hs 17) q1119.2.2.2.2.2.1, SU cy (hs 16) (hs 18) q1119.2.2.2.2.2.2.1, SC (hs 17) q1119.2.2.2.2.2.2.2.1, HI (hs 4) (hs 19) q1119.2.2.2.2.2.2.2.2.1, HR cy (hs 19) ta q1119.2.2.2.2.2.2.2.2.2.1, SL (hs 5) (hs 20) q1119.2.2.2.2.2.2.2.2.2.2.1, TB cy (hs 20) (hs 21) (hs 22) (hs 23) q1119.2.2.2.2.2.2.2.2.2.2.2.1, SU cy (hs 22) (hs 24) q1119.2.2.2.2.2.2.2.2.2.2.2.2.1, SL (hs 6) (hs 25) q1119.2.2.2.2.2.2.2.2.2.2.2.2.2.1, TB cy (hs 25) (hs 26) (hs 27) (hs 28) q1119.2.2.2.2.2.2.2.2.2.2.2.2.2.2.1, SU cy (hs 27) (hs 29) q1119.2.2.2.2.2.2.2.2.2.2.2.2.2.2.2.1, TA (hs 7) q1139.2.2, AI cy 12 (hs 8) q1119.2.2.2.2.2.2.2.2.2.2.2.2.2.2.2.2.2.1, AI cy 66 (hs 9) q1119.2.2.2.2.2.2.2.2.2.2.2.2.2.2.2.2.2.2]) (r := [OB cy k0 ks tb q1120.2])).symm ?_
      refine g_aload_n X dL_alike_42 1 rfl rfl ?_
      obtain ⟨q1140, hq1140, hf⟩ := obind hf
      refine g_regroup (gs' := [OB cy h0 hs ta (q1119.2.1, q1119.2.2.1, q1119.2.2.2.1, q1139.2.1, q1119.2.2.2.2.2.1, q1119.2.2.2.2.2.2.1, q1119.2.2.2.2.2.2.2.1, q1119.2.2.2.2.2.2.2.2.1, q1119.2.2.2.2.2.2.2.2.2.1, q1119.2.2.2.2.2.2.2.2.2.2.1, q1119.2.2.2.2.2.2.2.2.2.2.2.1, q1119.2.2.2.2.2.2.2.2.2.2.2.2.1, q1119.2.2.2.2.2.2.2.2.2.2.2.2.2.1, q1119.2.2.2.2.2.2.2.2.2.2.2.2.2.2.1, q1119.2.2.2.2.2.2.2.2.2.2.2.2.2.2.2.1, q1139.2.2, q1119.2.2.2.2.2.2.2.2.2.2.2.2.2.2.2.2.2.1, q1119.2.2.2.2.2.2.2.2.2.2.2.2.2.2.2.2.2.2), FP k0 (ks 1) (ks 2) (ks 3) (ks 4) (ks 5) (ks 6) (ks 7) (ks 8) (ks 9), TX cy (ks 1) (ks 10) q1120.2.1, TB cy (ks 2) (ks 11) (ks 12) (ks 13) q1120.2.2.1, SU cy (ks 12) (ks 14) q1120.2.2.2.1, SC (ks 13) q1120.2.2.2.2.1, TB cy (ks 3) (ks 15) (ks 16) (ks 17) q1120.2.2.2.2.2.1, SU cy (ks 16) (ks 18) q1120.2.2.2.2.2.2.1, SC (ks 17) q1120.2.2.2.2.2.2.2.1, HI (ks 4) (ks 19) q1120.2.2.2.2.2.2.2.2.1, HR cy (ks 19) tb q1120.2.2.2.2.2.2.2.2.2.1, SL (ks 5) (ks 20) q1120.2.2.2.2.2.2.2.2.2.2.1, TB cy (ks 20) (ks 21) (ks 22) (ks 23) q1120.2.2.2.2.2.2.2.2.2.2.2.1, SU cy (ks 22) (ks 24) q1120.2.2.2.2.2.2.2.2.2.2.2.2.1, SL (ks 6) (ks 25) q1120.2.2.2.2.2.2.2.2.2.2.2.2.2.1, TB cy (ks 25) (ks 26) (ks 27) (ks 28) q1120.2.2.2.2.2.2.2.2.2.2.2.2.2.2.1, SU cy (ks 27) (ks 29) q1120.2.2.2.2.2.2.2.2.2.2.2.2.2.2.2.1, TA (ks 7) q1120.2.2.2.2.2.2.2.2.2.2.2.2.2.2.2.2.1, AI cy 12 (ks 8) q1120.2.2.2.2.2.2.2.2.2.2.2.2.2.2.2.2.2.1, AI cy 66 (ks 9) q1120.2.2.2.2.2.2.2.2.2.2.2.2.2.2.2.2.2.2]) (ob_split (pre := [OB cy h0 hs ta (q1119.2.1, q1119.2.2.1, q1119.2.2.2.1, q1139.2.1, q1119.2.2.2.2.2.1, q1119.2.2.2.2.2.2.1, q1119.2.2.2.2.2.2.2.1, q1119.2.2.2.2.2.2.2.2.1, q1119.2.2.2.2.2.2.2.2.2.1, q1119.2.2.2.2.2.2.2.2.2.2.1, q1119.2.2.2.2.2.2.2.2.2.2.2.1, q1119.2.2.2.2.2.2.2.2.2.2.2.2.1, q1119.2.2.2.2.2.2.2.2.2.2.2.2.2.1, q1119.2.2.2.2.2.2.2.2.2.2.2.2.2.2.1, q1119.2.2.2.2.2.2.2.2.2.2.2.2.2.2.2.1, q1139.2.2, q1119.2.2.2.2.2.2.2.2.2.2.2.2.2.2.2.2.2.1, q1119.2.2.2.2.2.2.2.2.2.2.2.2.2.2.2.2.2.2)]) (g := [FP k0 (ks 1) (ks 2) (ks 3) (ks 4) (ks 5) (ks 6) (ks 7) (ks 8) (ks 9), TX cy (ks 1) (ks 10) q1120.2.1, TB cy (ks 2) (ks 11) (ks 12) (ks 13) q1120.2.2.1, SU cy (ks 12) (ks 14) q1120.2.2.2.1, SC (ks 13) q1120.2.2.2.2.1, TB cy (ks 3) (ks 15) (ks 16) (ks 17) q1120.2.2.2.2.2.1, SU cy (ks 16) (ks 18) q1120.2.2.2.2.2.2.1, SC (ks 17) q1120.2.2.2.2.2.2.2.1, HI (ks 4) (ks 19) q1120.2.2.2.2.2.2.2.2.1, HR cy (ks 19) tb q1120.2.2.2.2.2.2.2.2.2.1, SL (ks 5) (ks 20) q1120.2.2.2.2.2.2.2.2.2.2.1, TB cy (ks 20) (ks 21) (ks 22) (ks 23) q1120.2.2.2.2.2.2.2.2.2.2.2.1, SU cy (ks 22) (ks 24) q1120.2.2.2.2.2.2.2.2.2.2.2.2.1, SL (ks 6) (ks 25) q1120.2.2.2.2.2.2.2.2.2.2.2.2.2.1, TB cy (ks 25) (ks 26) (ks 27) (ks 28) q1120.2.2.2.2.2.2.2.2.2.2.2.2.2.2.1, SU cy (ks 27) (ks 29) q1120.2.2.2.2.2.2.2.2.2.2.2.2.2.2.2.1, TA (ks 7) q1120.2.2.2.2.2.2.2.2.2.2.2.2.2.2.2.2.1, AI cy 12 (ks 8) q1120.2.2.2.2.2.2.2.2.2.2.2.2.2.2.2.2.2.1, AI cy 66 (ks 9) q1120.2.2.2.2.2.2.2.2.2.2.2.2.2.2.2.2.2.2]) (r := [])) ?_
      refine g_callV (gs' := [OB cy h0 hs ta (q1119.2.1, q1119.2.2.1, q1119.2.2.2.1, q1139.2.1, q1119.2.2.2.2.2.1, q1119.2.2.2.2.2.2.1, q1119.2.2.2.2.2.2.2.1, q1119.2.2.2.2.2.2.2.2.1, q1119.2.2.2.2.2.2.2.2.2.1, q1119.2.2.2.2.2.2.2.2.2.2.1, q1119.2.2.2.2.2.2.2.2.2.2.2.1, q1119.2.2.2.2.2.2.2.2.2.2.2.2.1, q1119.2.2.2.2.2.2.2.2.2.2.2.2.2.1, q1119.2.2.2.2.2.2.2.2.2.2.2.2.2.2.1, q1119.2.2.2.2.2.2.2.2.2.2.2.2.2.2.2.1, q1139.2.2, q1119.2.2.2.2.2.2.2.2.2.2.2.2.2.2.2.2.2.1, q1119.2.2.2.2.2.2.2.2.2.2.2.2.2.2.2.2.2.2), FP k0 (ks 1) (ks 2) (ks 3) (ks 4) (ks 5) (ks 6) (ks 7) (ks 8) (ks 9), TX cy (ks 1) (ks 10) q1120.2.1, TB cy (ks 2) (ks 11) (ks 12) (ks 13) q1120.2.2.1, SU cy (ks 12) (ks 14) q1120.2.2.2.1, SC (ks 13) q1140.2.1, TB cy (ks 3) (ks 15) (ks 16) (ks 17) q1120.2.2.2.2.2.1, SU cy (ks 16) (ks 18) q1120.2.2.2.2.2.2.1, SC (ks 17) q1120.2.2.2.2.2.2.2.1, HI (ks 4) (ks 19) q1120.2.2.2.2.2.2.2.2.1, HR cy (ks 19) tb q1120.2.2.2.2.2.2.2.2.2.1, SL (ks 5) (ks 20) q1120.2.2.2.2.2.2.2.2.2.2.1, TB cy (ks 20) (ks 21) (ks 22) (ks 23) q1120.2.2.2.2.2.2.2.2.2.2.2.1, SU cy (ks 22) (ks 24) q1120.2.2.2.2.2.2.2.2.2.2.2.2.1, SL (ks 6) (ks 25) q1120.2.2.2.2.2.2.2.2.2.2.2.2.2.1, TB cy (ks 25) (ks 26) (ks 27) (ks 28) q1120.2.2.2.2.2.2.2.2.2.2.2.2.2.2.1, SU cy (ks 27) (ks 29) q1120.2.2.2.2.2.2.2.2.2.2.2.2.2.2.2.1, TA (ks 7) q1140.2.2, AI cy 12 (ks 8) q1120.2.2.2.2.2.2.2.2.2.2.2.2.2.2.2.2.2.1, AI cy 66 (ks 9) q1120.2.2.2.2.2.2.2.2.2.2.2.2.2.2.2.2.2.2]) (rest := [.int q1139.1]) X dL_alike_43 (c_X7_sharpest l D cy ad k0 (ks 1) (ks 2) (ks 3) (ks 4) (ks 5) (ks 6) (ks 7) (ks 8) (ks 9) (ks 11) (ks 12) (ks 13) (ks 14) q1120.2.2.1 q1120.2.2.2.1 q1120.2.2.2.2.1 q1120.2.2.2.2.2.2.2.2.2.2.2.2.2.2.2.2.1 hq1140) mf_X7_sharpest mv_X7_sharpest lkm_L_165 ⟨(Nat.le_of_ble_eq_true rfl), (Nat.le_of_ble_eq_true rfl), (Nat.le_of_ble_eq_true rfl), (Nat.le_of_ble_eq_true rfl)⟩ 1 0 rfl rfl rfl rfl [1, 3, 4, 5, 17, 0, 2, 6, 7, 8, 9, 10, 11, 12, 13, 14, 15, 16, 18, 19] _ (by decide : [1, 3, 4, 5, 17, 0, 2, 6, 7, 8, 9, 10, 11, 12, 13, 14, 15, 16, 18, 19].Perm (List.range 20)) rfl (by decide : [1, 3, 4, 5, 17, 0, 2, 6, 7, 8, 9, 10, 11, 12, 13, 14, 15, 16, 18, 19].Perm (List.range 20)) rfl (Nat.le_of_ble_eq_true rfl) rfl ?_
      refine g_regroup (gs' := [OB cy h0 hs ta (q1119.2.1, q1119.2.2.1, q1119.2.2.2.1, q1139.2.1, q1119.2.2.2.2.2.1, q1119.2.2.2.2.2.2.1, q1119.2.2.2.2.2.2.2.1, q1119.2.2.2.2.2.2.2.2.1, q1119.2.2.2.2.2.2.2.2.2.1, q1119.2.2.2.2.2.2.2.2.2.2.1, q1119.2.2.2.2.2.2.2.2.2.2.2.1, q1119.2.2.2.2.2.2.2.2.2.2.2.2.1, q1119.2.2.2.2.2.2.2.2.2.2.2.2.2.1, q1119.2.2.2.2.2.2.2.2.2.2.2.2.2.2.1, q1119.2.2.2.2.2.2.2.2.2.2.2.2.2.2.2.1, q1139.2.2, q1119.2.2.2.2.2.2.2.2.2.2.2.2.2.2.2.2.2.1, q1119.2.2.2.2.2.2.2.2.2.2.2.2.2.2.2.2.2.2), OB cy k0 ks tb (q1120.2.1, q1120.2.2.1, q1120.2.2.2.1, q1140.2.1, q1120.2.2.2.2.2.1, q1120.2.2.2.2.2.2.1, q1120.2.2.2.2.2.2.2.1, q1120.2.2.2.2.2.2.2.2.1, q1120.2.2.2.2.2.2.2.2.2.1, q1120.2.2.2.2.2.2.2.2.2.2.1, q1120.2.2.2.2.2.2.2.2.2.2.2.1, q1120.2.2.2.2.2.2.2.2.2.2.2.2.1, q1120.2.2.2.2.2.2.2.2.2.2.2.2.2.1, q1120.2.2.2.2.2.2.2.2.2.2.2.2.2.2.1, q1120.2.2.2.2.2.2.2.2.2.2.2.2.2.2.2.1, q1140.2.2, q1120.2.2.2.2.2.2.2.2.2.2.2.2.2.2.2.2.2.1, q1120.2.2.2.2.2.2.2.2.2.2.2.2.2.2.2.2.2.2)]) (ob_split (pre := [OB cy h0 hs ta (q1119.2.1, q1119.2.2.1, q1119.2.2.2.1, q1139.2.1, q1119.2.2.2.2.2.1, q1119.2.2.2.2.2.2.1, q1119.2.2.2.2.2.2.2.1, q1119.2.2.2.2.2.2.2.2.1, q1119.2.2.2.2.2.2.2.2.2.1, q1119.2.2.2.2.2.2.2.2.2.2.1, q1119.2.2.2.2.2.2.2.2.2.2.2.1, q1119.2.2.2.2.2.2.2.2.2.2.2.2.1, q1119.2.2.2.2.2.2.2.2.2.2.2.2.2.1, q1119.2.2.2.2.2.2.2.2.2.2.2.2.2.2.1, q1119.2.2.2.2.2.2.2.2.2.2.2.2.2.2.2.1, q1139.2.2, q1119.2.2.2.2.2.2.2.2.2.2.2.2.2.2.2.2.2.1, q1119.2.2.2.2.2.2.2.2.2.2.2.2.2.2.2.2.2.2)]) (g := [FP k0 (ks 1) (ks 2) (ks 3) (ks 4) (ks 5) (ks 6) (ks 7) (ks 8) (ks 9), TX cy (ks 1) (ks 10) q1120.2.1, TB cy (ks 2) (ks 11) (ks 12) (ks 13) q1120.2.2.1, SU cy (ks 12) (ks 14) q1120.2.2.2.1, SC (ks 13) q1140.2.1, TB cy (ks 3) (ks 15) (ks 16) (ks 17) q1120.2.2.2.2.2.1, SU cy (ks 16) (ks 18) q1120.2.2.2.2.2.2.1, SC (ks 17) q1120.2.2.2.2.2.2.2.1, HI (ks 4) (ks 19) q1120.2.2.2.2.2.2.2.2.1, HR cy (ks 19) tb q1120.2.2.2.2.2.2.2.2.2.1, SL (ks 5) (ks 20) q1120.2.2.2.2.2.2.2.2.2.2.1, TB cy (ks 20) (ks 21) (ks 22) (ks 23) q1120.2.2.2.2.2.2.2.2.2.2.2.1, SU cy (ks 22) (ks 24) q1120.2.2.2.2.2.2.2.2.2.2.2.2.1, SL (ks 6) (ks 25) q1120.2.2.2.2.2.2.2.2.2.2.2.2.2.1, TB cy (ks 25) (ks 26) (ks 27) (ks 28) q1120.2.2.2.2.2.2.2.2.2.2.2.2.2.2.1, SU cy (ks 27) (ks 29) q1120.2.2.2.2.2.2.2.2.2.2.2.2.2.2.2.1, TA (ks 7) q1140.2.2, AI cy 12 (ks 8) q1120.2.2.2.2.2.2.2.2.2.2.2.2.2.2.2.2.2.1, AI cy 66 (ks 9) q1120.2.2.2.2.2.2.2.2.2.2.2.2.2.2.2.2.2.2]) (r := [])).symm ?_
      refine g_icmp_ne X 53 dL_alike_46 (by decide) (fun c1141 => ?_) (fun c1141 => ?_)
      · have hf := oneg c1141 hf
        exact j_L_alike_b53 X hr hfl (q1119.2.1, q1119.2.2.1, q1119.2.2.2.1, q1139.2.1, q1119.2.2.2.2.2.1, q1119.2.2.2.2.2.2.1, q1119.2.2.2.2.2.2.2.1, q1119.2.2.2.2.2.2.2.2.1, q1119.2.2.2.2.2.2.2.2.2.1, q1119.2.2.2.2.2.2.2.2.2.2.1, q1119.2.2.2.2.2.2.2.2.2.2.2.1, q1119.2.2.2.2.2.2.2.2.2.2.2.2.1, q1119.2.2.2.2.2.2.2.2.2.2.2.2.2.1, q1119.2.2.2.2.2.2.2.2.2.2.2.2.2.2.1, q1119.2.2.2.2.2.2.2.2.2.2.2.2.2.2.2.1, q1139.2.2, q1119.2.2.2.2.2.2.2.2.2.2.2.2.2.2.2.2.2.1, q1119.2.2.2.2.2.2.2.2.2.2.2.2.2.2.2.2.2.2) (q1120.2.1, q1120.2.2.1, q1120.2.2.2.1, q1140.2.1, q1120.2.2.2.2.2.1, q1120.2.2.2.2.2.2.1, q1120.2.2.2.2.2.2.2.1, q1120.2.2.2.2.2.2.2.2.1, q1120.2.2.2.2.2.2.2.2.2.1, q1120.2.2.2.2.2.2.2.2.2.2.1, q1120.2.2.2.2.2.2.2.2.2.2.2.1, q1120.2.2.2.2.2.2.2.2.2.2.2.2.1, q1120.2.2.2.2.2.2.2.2.2.2.2.2.2.1, q1120.2.2.2.2.2.2.2.2.2.2.2.2.2.2.1, q1120.2.2.2.2.2.2.2.2.2.2.2.2.2.2.2.1, q1140.2.2, q1120.2.2.2.2.2.2.2.2.2.2.2.2.2.2.2.2.2.1, q1120.2.2.2.2.2.2.2.2.2.2.2.2.2.2.2.2.2.2) p2 hf
      · have hf := opos c1141 hf
        refine g_iconst X (1 : Int32) dL_alike_49 (by decide) ?_
        refine g_goto X 54 dL_alike_50 (by decide) ?_
        exact j_L_alike_b54 X hr hfl (q1119.2.1, q1119.2.2.1, q1119.2.2.2.1, q1139.2.1, q1119.2.2.2.2.2.1, q1119.2.2.2.2.2.2.1, q1119.2.2.2.2.2.2.2.1, q1119.2.2.2.2.2.2.2.2.1, q1119.2.2.2.2.2.2.2.2.2.1, q1119.2.2.2.2.2.2.2.2.2.2.1, q1119.2.2.2.2.2.2.2.2.2.2.2.1, q1119.2.2.2.2.2.2.2.2.2.2.2.2.1, q1119.2.2.2.2.2.2.2.2.2.2.2.2.2.1, q1119.2.2.2.2.2.2.2.2.2.2.2.2.2.2.1, q1119.2.2.2.2.2.2.2.2.2.2.2.2.2.2.2.1, q1139.2.2, q1119.2.2.2.2.2.2.2.2.2.2.2.2.2.2.2.2.2.1, q1119.2.2.2.2.2.2.2.2.2.2.2.2.2.2.2.2.2.2) (q1120.2.1, q1120.2.2.1, q1120.2.2.2.1, q1140.2.1, q1120.2.2.2.2.2.1, q1120.2.2.2.2.2.2.1, q1120.2.2.2.2.2.2.2.1, q1120.2.2.2.2.2.2.2.2.1, q1120.2.2.2.2.2.2.2.2.2.1, q1120.2.2.2.2.2.2.2.2.2.2.1, q1120.2.2.2.2.2.2.2.2.2.2.2.1, q1120.2.2.2.2.2.2.2.2.2.2.2.2.1, q1120.2.2.2.2.2.2.2.2.2.2.2.2.2.1, q1120.2.2.2.2.2.2.2.2.2.2.2.2.2.2.1, q1120.2.2.2.2.2.2.2.2.2.2.2.2.2.2.2.1, q1140.2.2, q1120.2.2.2.2.2.2.2.2.2.2.2.2.2.2.2.2.2.1, q1120.2.2.2.2.2.2.2.2.2.2.2.2.2.2.2.2.2.2) p2 true hf
abbrev rmL_weighs : Room := ({ frames := 10, cells := 484, slots := 2904, locals := 185 } : Room)
def f_L_weighs_b19 (v0 : OBv) (v1 : OBv) (x2 : Int32) (x3 : Int32) : Option (Bool × OBv × OBv) :=
  (f_O_call v0 (8 : Int32) x2 x3 (0 : Int32)).bind (fun q1167 => (f_L_thrown q1167.1).bind (fun q1168 => if (b2i q1168) = 0 then some (false, q1167.2, v1) else (f_O_call v1 (8 : Int32) x2 x3 (0 : Int32)).bind (fun q1169 => (f_L_thrown q1169.1).bind (fun q1170 => if (b2i q1170) = 0 then some (false, q1167.2, q1169.2) else some (true, q1167.2, q1169.2)))))
set_option maxRecDepth 100000 in
set_option maxHeartbeats 4000000 in
theorem j_L_weighs_b19 {p : Program} {l : Launch} {e : Env} {s : State} {m : MethodId} {args : Array Value} {below : List Frame} {meth : Method} {c : Code} {A : Nat → Prop} {D : va_G} {cy : Nat → ClassId} {ad : (Nat → Nat) × (Nat → Nat)} (X : gK p s m args meth c A D cy ad cL_weighs 18 RL) (hr : meth.sig.returnType = (some .boolean)) (hfl : l.stackTraces = false) {h0 k0 : Nat} {hs ks : Nat → Nat} {ta tb : TAd} (v0 : OBv) (v1 : OBv) (x2 : Int32) (x3 : Int32) {q : Bool × OBv × OBv} (hf : f_L_weighs_b19 v0 v1 x2 x3 = some q) : GW p l e rmL_weighs s m args below meth c A D 18 2 12 (MQ below (cmQ D cy A (some (.int (b2i q.1))) ([OB cy h0 hs ta q.2.1, OB cy k0 ks tb q.2.2] : List va_W).flatten) args s 484 2904 A) 19 [(0, .ref h0), (1, .ref k0), (2, .int x2), (3, .int x3)] [] [OB cy h0 hs ta v0, OB cy k0 ks tb v1] := by
  unfold f_L_weighs_b19 at hf
  refine g_aload_n X dL_weighs_19 0 rfl rfl ?_
  refine g_bipush X (8 : Int32) dL_weighs_20 (by decide) ?_
  refine g_iload_n X dL_weighs_22 2 rfl rfl ?_
  refine g_iload_n X dL_weighs_23 3 rfl rfl ?_
  refine g_iconst X (0 : Int32) dL_weighs_24 (by decide) ?_
  obtain ⟨q1167, hq1167, hf⟩ := obind hf
  refine g_callS (gs' := [OB cy h0 hs ta q1167.2, OB cy k0 ks tb v1]) (rest := []) X dL_weighs_25 (o_L_call l D cy ad h0 hs ta v0 (8 : Int32) x2 x3 (0 : Int32) hfl hq1167) mf_L_call ms_L_call lkm_L_144 ⟨(Nat.le_of_ble_eq_true rfl), (Nat.le_of_ble_eq_true rfl), (Nat.le_of_ble_eq_true rfl), (Nat.le_of_ble_eq_true rfl)⟩ [0, 1] _ (by decide : [0, 1].Perm (List.range 2)) rfl (by decide : [0, 1].Perm (List.range 2)) rfl (Nat.le_of_ble_eq_true rfl) rfl ?_
  refine g_cs (c' := 4) (s' := 24) rfl rfl ?_
  obtain ⟨q1168, hq1168, hf⟩ := obind hf
  refine g_callS (gs' := [OB cy h0 hs ta q1167.2, OB cy k0 ks tb v1]) (rest := []) X dL_weighs_28 (c_L_thrown l D cy ad q1167.1 hq1168) mf_L_thrown ms_L_thrown lkm_L_201 ⟨(Nat.le_of_ble_eq_true rfl), (Nat.le_of_ble_eq_true rfl), (Nat.le_of_ble_eq_true rfl), (Nat.le_of_ble_eq_true rfl)⟩ [0, 1] _ (by decide : [0, 1].Perm (List.range 2)) rfl (by decide : [0, 1].Perm (List.range 2)) rfl (Nat.le_of_ble_eq_true rfl) rfl ?_
  refine g_if_eq X 53 dL_weighs_31 (by decide) (fun c1172 => ?_) (fun c1172 => ?_)
  · have hf := opos c1172 hf
    refine g_widen (k := 6) (n := 36) (Nat.le_of_ble_eq_true rfl) (Nat.le_of_ble_eq_true rfl) ?_
    refine g_iconst X (0 : Int32) dL_weighs_53 (by decide) ?_
    refine g_widen (k := 484) (n := 2904) (Nat.le_of_ble_eq_true rfl) (Nat.le_of_ble_eq_true rfl) ?_
    have hf := Option.some.inj hf
    subst hf
    exact g_zret (b := false) X hr dL_weighs_54
  · have hf := oneg c1172 hf
    refine g_aload_n X dL_weighs_34 1 rfl rfl ?_
    refine g_bipush X (8 : Int32) dL_weighs_35 (by decide) ?_
    refine g_iload_n X dL_weighs_37 2 rfl rfl ?_
    refine g_iload_n X dL_weighs_38 3 rfl rfl ?_
    refine g_iconst X (0 : Int32) dL_weighs_39 (by decide) ?_
    obtain ⟨q1169, hq1169, hf⟩ := obind hf
    refine g_callS (gs' := [OB cy h0 hs ta q1167.2, OB cy k0 ks tb q1169.2]) (rest := []) X dL_weighs_40 (o_L_call l D cy ad k0 ks tb v1 (8 : Int32) x2 x3 (0 : Int32) hfl hq1169) mf_L_call ms_L_call lkm_L_144 ⟨(Nat.le_of_ble_eq_true rfl), (Nat.le_of_ble_eq_true rfl), (Nat.le_of_ble_eq_true rfl), (Nat.le_of_ble_eq_true rfl)⟩ [1, 0] _ (by decide : [1, 0].Perm (List.range 2)) rfl (by decide : [1, 0].Perm (List.range 2)) rfl (Nat.le_of_ble_eq_true rfl) rfl ?_
    refine g_cs (c' := 6) (s' := 36) rfl rfl ?_
    obtain ⟨q1170, hq1170, hf⟩ := obind hf
    refine g_callS (gs' := [OB cy h0 hs ta q1167.2, OB cy k0 ks tb q1169.2]) (rest := []) X dL_weighs_43 (c_L_thrown l D cy ad q1169.1 hq1170) mf_L_thrown ms_L_thrown lkm_L_201 ⟨(Nat.le_of_ble_eq_true rfl), (Nat.le_of_ble_eq_true rfl), (Nat.le_of_ble_eq_true rfl), (Nat.le_of_ble_eq_true rfl)⟩ [0, 1] _ (by decide : [0, 1].Perm (List.range 2)) rfl (by decide : [0, 1].Perm (List.range 2)) rfl (Nat.le_of_ble_eq_true rfl) rfl ?_
    refine g_if_eq X 53 dL_weighs_46 (by decide) (fun c1171 => ?_) (fun c1171 => ?_)
    · have hf := opos c1171 hf
      refine g_iconst X (0 : Int32) dL_weighs_53 (by decide) ?_
      refine g_widen (k := 484) (n := 2904) (Nat.le_of_ble_eq_true rfl) (Nat.le_of_ble_eq_true rfl) ?_
      have hf := Option.some.inj hf
      subst hf
      exact g_zret (b := false) X hr dL_weighs_54
    · have hf := oneg c1171 hf
      refine g_iconst X (1 : Int32) dL_weighs_49 (by decide) ?_
      refine g_goto X 54 dL_weighs_50 (by decide) ?_
      refine g_widen (k := 484) (n := 2904) (Nat.le_of_ble_eq_true rfl) (Nat.le_of_ble_eq_true rfl) ?_
      have hf := Option.some.inj hf
      subst hf
      exact g_zret (b := true) X hr dL_weighs_54
def f_L_weighs_B117_b182 (v0 : OBv) (v1 : OBv) (x2 : Int32) (x3 : Int32) (x4 : Int32) (x5 : Int32) (x6 : Int32) (x7 : Int32) (x8 : Int32) (x9 : Int64) (x13 : Int32) (y0 : Int64) (y1 : Int64) : Option ((Int64 × Int64 × Int32 × OBv) ⊕ ((Int64 × Int64 × OBv))) :=
  some (.inl (x9, (y1 ||| y0), (x13 + (1 : Int32)), v0))
set_option maxRecDepth 100000 in
set_option maxHeartbeats 4000000 in
theorem j_L_weighs_B117_b182 {p : Program} {l : Launch} {e : Env} {s : State} {m : MethodId} {args : Array Value} {below : List Frame} {meth : Method} {c : Code} {A : Nat → Prop} {D : va_G} {cy : Nat → ClassId} {ad : (Nat → Nat) × (Nat → Nat)} {Q : State → Prop} (X : gK p s m args meth c A D cy ad cL_weighs 18 RL) (hr : meth.sig.returnType = (some .boolean)) (hfl : l.stackTraces = false) {cb sb : Nat} (hk1 : ∀ k, k ≤ 4 → cb + k ≤ rmL_weighs.cells) (hk2 : ∀ k, k ≤ 24 → sb + k ≤ rmL_weighs.slots) {h0 k0 : Nat} {hs ks : Nat → Nat} {ta tb : TAd} (v0 : OBv) (v1 : OBv) (x2 : Int32) (x3 : Int32) (x4 : Int32) (x5 : Int32) (x6 : Int32) (x7 : Int32) (x8 : Int32) (x9 : Int64) (x13 : Int32) (y0 : Int64) (y1 : Int64) {q : (Int64 × Int64 × Int32 × OBv) ⊕ ((Int64 × Int64 × OBv))} (hf : f_L_weighs_B117_b182 v0 v1 x2 x3 x4 x5 x6 x7 x8 x9 x13 y0 y1 = some q) (K1 : ∀ s' : Int64 × Int64 × Int32 × OBv, q = .inl s' → GW p l e rmL_weighs s m args below meth c A D 18 (cb + 4) (sb + 24) Q 117 [(0, .ref h0), (1, .ref k0), (2, .int x2), (3, .int x3), (4, .int x4), (5, .int x5), (6, .int x6), (7, .int x7), (8, .int x8), (9, .long s'.1), (11, .long s'.2.1), (13, .int s'.2.2.1)] [] [OB cy h0 hs ta s'.2.2.2, OB cy k0 ks tb v1]) (K2 : ∀ e' : Int64 × Int64 × OBv, q = .inr (e') → GW p l e rmL_weighs s m args below meth c A D 18 (cb + 4) (sb + 24) Q 191 [(0, .ref h0), (1, .ref k0), (2, .int x2), (3, .int x3), (4, .int x4), (5, .int x5), (6, .int x6), (7, .int x7), (8, .int x8), (9, .long e'.1), (11, .long e'.2.1)] [] [OB cy h0 hs ta e'.2.2, OB cy k0 ks tb v1]) : GW p l e rmL_weighs s m args below meth c A D 18 (cb + 4) (sb + 24) Q 182 [(0, .ref h0), (1, .ref k0), (2, .int x2), (3, .int x3), (4, .int x4), (5, .int x5), (6, .int x6), (7, .int x7), (8, .int x8), (9, .long x9), (13, .int x13)] [.long y0, .long y1] [OB cy h0 hs ta v0, OB cy k0 ks tb v1] := by
  unfold f_L_weighs_B117_b182 at hf
  refine g_lor X dL_weighs_182 ?_
  refine g_lstore (lv' := [(0, .ref h0), (1, .ref k0), (2, .int x2), (3, .int x3), (4, .int x4), (5, .int x5), (6, .int x6), (7, .int x7), (8, .int x8), (9, .long x9), (11, .long (y1 ||| y0)), (13, .int x13)]) X dL_weighs_183 [1, 2, 3, 4, 5, 6, 7, 8, 9, 10, 0, 11] (Nat.le_of_ble_eq_true rfl) rfl ?_
  refine g_iinc (lv' := [(0, .ref h0), (1, .ref k0), (2, .int x2), (3, .int x3), (4, .int x4), (5, .int x5), (6, .int x6), (7, .int x7), (8, .int x8), (9, .long x9), (11, .long (y1 ||| y0)), (13, .int (x13 + (1 : Int32)))]) (v := (1 : Int32)) X dL_weighs_185 11 rfl (by decide) [1, 2, 3, 4, 5, 6, 7, 8, 9, 10, 11, 0] (Nat.le_of_ble_eq_true rfl) rfl ?_
  refine g_goto X 117 dL_weighs_188 (by decide) ?_
  exact K1 (x9, (y1 ||| y0), (x13 + (1 : Int32)), v0) (Option.some.inj hf).symm
def f_L_weighs_B117_b150 (v0 : OBv) (v1 : OBv) (x2 : Int32) (x3 : Int32) (x4 : Int32) (x5 : Int32) (x6 : Int32) (x7 : Int32) (x8 : Int32) (x11 : Int64) (x13 : Int32) (y0 : Int64) (y1 : Int64) : Option ((Int64 × Int64 × Int32 × OBv) ⊕ ((Int64 × Int64 × OBv))) :=
  if (60 : Int32) ≤ x13 then (f_O_call v0 (4 : Int32) x13 (0 : Int32) (0 : Int32)).bind (fun q1179 => f_L_weighs_B117_b182 q1179.2 v1 x2 x3 x4 x5 x6 x7 x8 (y1 ||| y0) x13 ((q1179.1.toInt64) <<< ((x13 - (60 : Int32)).toInt64 &&& 63)) x11) else f_L_weighs_B117_b182 v0 v1 x2 x3 x4 x5 x6 x7 x8 (y1 ||| y0) x13 (0 : Int64) x11
set_option maxRecDepth 100000 in
set_option maxHeartbeats 4000000 in
theorem j_L_weighs_B117_b150 {p : Program} {l : Launch} {e : Env} {s : State} {m : MethodId} {args : Array Value} {below : List Frame} {meth : Method} {c : Code} {A : Nat → Prop} {D : va_G} {cy : Nat → ClassId} {ad : (Nat → Nat) × (Nat → Nat)} {Q : State → Prop} (X : gK p s m args meth c A D cy ad cL_weighs 18 RL) (hr : meth.sig.returnType = (some .boolean)) (hfl : l.stackTraces = false) {cb sb : Nat} (hk1 : ∀ k, k ≤ 4 → cb + k ≤ rmL_weighs.cells) (hk2 : ∀ k, k ≤ 24 → sb + k ≤ rmL_weighs.slots) {h0 k0 : Nat} {hs ks : Nat → Nat} {ta tb : TAd} (v0 : OBv) (v1 : OBv) (x2 : Int32) (x3 : Int32) (x4 : Int32) (x5 : Int32) (x6 : Int32) (x7 : Int32) (x8 : Int32) (x11 : Int64) (x13 : Int32) (y0 : Int64) (y1 : Int64) {q : (Int64 × Int64 × Int32 × OBv) ⊕ ((Int64 × Int64 × OBv))} (hf : f_L_weighs_B117_b150 v0 v1 x2 x3 x4 x5 x6 x7 x8 x11 x13 y0 y1 = some q) (K1 : ∀ s' : Int64 × Int64 × Int32 × OBv, q = .inl s' → GW p l e rmL_weighs s m args below meth c A D 18 (cb + 4) (sb + 24) Q 117 [(0, .ref h0), (1, .ref k0), (2, .int x2), (3, .int x3), (4, .int x4), (5, .int x5), (6, .int x6), (7, .int x7), (8, .int x8), (9, .long s'.1), (11, .long s'.2.1), (13, .int s'.2.2.1)] [] [OB cy h0 hs ta s'.2.2.2, OB cy k0 ks tb v1]) (K2 : ∀ e' : Int64 × Int64 × OBv, q = .inr (e') → GW p l e rmL_weighs s m args below meth c A D 18 (cb + 4) (sb + 24) Q 191 [(0, .ref h0), (1, .ref k0), (2, .int x2), (3, .int x3), (4, .int x4), (5, .int x5), (6, .int x6), (7, .int x7), (8, .int x8), (9, .long e'.1), (11, .long e'.2.1)] [] [OB cy h0 hs ta e'.2.2, OB cy k0 ks tb v1]) : GW p l e rmL_weighs s m args below meth c A D 18 (cb + 2) (sb + 12) Q 150 [(0, .ref h0), (1, .ref k0), (2, .int x2), (3, .int x3), (4, .int x4), (5, .int x5), (6, .int x6), (7, .int x7), (8, .int x8), (11, .long x11), (13, .int x13)] [.long y0, .long y1] [OB cy h0 hs ta v0, OB cy k0 ks tb v1] := by
  unfold f_L_weighs_B117_b150 at hf
  refine g_lor X dL_weighs_150 ?_
  refine g_lstore (lv' := [(0, .ref h0), (1, .ref k0), (2, .int x2), (3, .int x3), (4, .int x4), (5, .int x5), (6, .int x6), (7, .int x7), (8, .int x8), (9, .long (y1 ||| y0)), (11, .long x11), (13, .int x13)]) X dL_weighs_151 [1, 2, 3, 4, 5, 6, 7, 8, 9, 0, 10, 11] (Nat.le_of_ble_eq_true rfl) rfl ?_
  refine g_lload X dL_weighs_153 10 rfl ?_
  refine g_iload X dL_weighs_155 11 rfl ?_
  refine g_bipush X (60 : Int32) dL_weighs_157 (by decide) ?_
  refine g_icmp_ge X 166 dL_weighs_159 (by decide) (fun c1180 => ?_) (fun c1180 => ?_)
  · have hf := opos c1180 hf
    refine g_aload_n X dL_weighs_166 0 rfl rfl ?_
    refine g_iconst X (4 : Int32) dL_weighs_167 (by decide) ?_
    refine g_iload X dL_weighs_168 11 rfl ?_
    refine g_iconst X (0 : Int32) dL_weighs_170 (by decide) ?_
    refine g_iconst X (0 : Int32) dL_weighs_171 (by decide) ?_
    obtain ⟨q1179, hq1179, hf⟩ := obind hf
    refine g_callS (gs' := [OB cy h0 hs ta q1179.2, OB cy k0 ks tb v1]) (rest := [.long x11]) X dL_weighs_172 (o_L_call l D cy ad h0 hs ta v0 (4 : Int32) x13 (0 : Int32) (0 : Int32) hfl hq1179) mf_L_call ms_L_call lkm_L_144 ⟨(Nat.le_of_ble_eq_true rfl), (Nat.le_of_ble_eq_true rfl), hk1 4 (by decide), hk2 24 (by decide)⟩ [0, 1] _ (by decide : [0, 1].Perm (List.range 2)) rfl (by decide : [0, 1].Perm (List.range 2)) rfl (Nat.le_of_ble_eq_true rfl) rfl ?_
    refine g_cs (c' := (cb + 4)) (s' := (sb + 24)) rfl rfl ?_
    refine g_i2l X dL_weighs_175 ?_
    refine g_iload X dL_weighs_176 11 rfl ?_
    refine g_bipush X (60 : Int32) dL_weighs_178 (by decide) ?_
    refine g_isub X dL_weighs_180 ?_
    refine g_lshl X dL_weighs_181 ?_
    refine g_sub [0, 1, 2, 3, 4, 5, 6, 7, 8, 9, 11] (lv' := [(0, .ref h0), (1, .ref k0), (2, .int x2), (3, .int x3), (4, .int x4), (5, .int x5), (6, .int x6), (7, .int x7), (8, .int x8), (9, .long (y1 ||| y0)), (13, .int x13)]) rfl ?_
    exact j_L_weighs_B117_b182 X hr hfl hk1 hk2 q1179.2 v1 x2 x3 x4 x5 x6 x7 x8 (y1 ||| y0) x13 ((q1179.1.toInt64) <<< ((x13 - (60 : Int32)).toInt64 &&& 63)) x11 hf K1 K2
  · have hf := oneg c1180 hf
    refine g_lconst X (0 : Int64) dL_weighs_162 (by decide) ?_
    refine g_goto X 182 dL_weighs_163 (by decide) ?_
    refine g_widen (k := (cb + 4)) (n := (sb + 24)) (by omega) (by omega) ?_
    refine g_sub [0, 1, 2, 3, 4, 5, 6, 7, 8, 9, 11] (lv' := [(0, .ref h0), (1, .ref k0), (2, .int x2), (3, .int x3), (4, .int x4), (5, .int x5), (6, .int x6), (7, .int x7), (8, .int x8), (9, .long (y1 ||| y0)), (13, .int x13)]) rfl ?_
    exact j_L_weighs_B117_b182 X hr hfl hk1 hk2 v0 v1 x2 x3 x4 x5 x6 x7 x8 (y1 ||| y0) x13 (0 : Int64) x11 hf K1 K2
def f_L_weighs_B117 (v1 : OBv) (x2 : Int32) (x3 : Int32) (x4 : Int32) (x5 : Int32) (x6 : Int32) (x7 : Int32) (x8 : Int32) (z : Int64 × Int64 × Int32 × OBv) : Option ((Int64 × Int64 × Int32 × OBv) ⊕ ((Int64 × Int64 × OBv))) :=
  if x4 ≤ z.2.2.1 then some (.inr ((z.1, z.2.1, z.2.2.2))) else if (60 : Int32) ≤ z.2.2.1 then f_L_weighs_B117_b150 z.2.2.2 v1 x2 x3 x4 x5 x6 x7 x8 z.2.1 z.2.2.1 (0 : Int64) z.1 else (f_O_call z.2.2.2 (4 : Int32) z.2.2.1 (0 : Int32) (0 : Int32)).bind (fun q1181 => f_L_weighs_B117_b150 q1181.2 v1 x2 x3 x4 x5 x6 x7 x8 z.2.1 z.2.2.1 ((q1181.1.toInt64) <<< (z.2.2.1.toInt64 &&& 63)) z.1)
set_option maxRecDepth 100000 in
set_option maxHeartbeats 4000000 in
theorem b_L_weighs_B117 {p : Program} {l : Launch} {e : Env} {s : State} {m : MethodId} {args : Array Value} {below : List Frame} {meth : Method} {c : Code} {A : Nat → Prop} {D : va_G} {cy : Nat → ClassId} {ad : (Nat → Nat) × (Nat → Nat)} {Q : State → Prop} (X : gK p s m args meth c A D cy ad cL_weighs 18 RL) (hr : meth.sig.returnType = (some .boolean)) (hfl : l.stackTraces = false) {cb sb : Nat} (hk1 : ∀ k, k ≤ 4 → cb + k ≤ rmL_weighs.cells) (hk2 : ∀ k, k ≤ 24 → sb + k ≤ rmL_weighs.slots) {h0 k0 : Nat} {hs ks : Nat → Nat} {ta tb : TAd} (v1 : OBv) (x2 : Int32) (x3 : Int32) (x4 : Int32) (x5 : Int32) (x6 : Int32) (x7 : Int32) (x8 : Int32) (z : Int64 × Int64 × Int32 × OBv) {q : (Int64 × Int64 × Int32 × OBv) ⊕ ((Int64 × Int64 × OBv))} (hf : f_L_weighs_B117 v1 x2 x3 x4 x5 x6 x7 x8 z = some q) (K1 : ∀ s' : Int64 × Int64 × Int32 × OBv, q = .inl s' → GW p l e rmL_weighs s m args below meth c A D 18 (cb + 4) (sb + 24) Q 117 [(0, .ref h0), (1, .ref k0), (2, .int x2), (3, .int x3), (4, .int x4), (5, .int x5), (6, .int x6), (7, .int x7), (8, .int x8), (9, .long s'.1), (11, .long s'.2.1), (13, .int s'.2.2.1)] [] [OB cy h0 hs ta s'.2.2.2, OB cy k0 ks tb v1]) (K2 : ∀ e' : Int64 × Int64 × OBv, q = .inr (e') → GW p l e rmL_weighs s m args below meth c A D 18 (cb + 4) (sb + 24) Q 191 [(0, .ref h0), (1, .ref k0), (2, .int x2), (3, .int x3), (4, .int x4), (5, .int x5), (6, .int x6), (7, .int x7), (8, .int x8), (9, .long e'.1), (11, .long e'.2.1)] [] [OB cy h0 hs ta e'.2.2, OB cy k0 ks tb v1]) : GW p l e rmL_weighs s m args below meth c A D 18 cb sb Q 117 [(0, .ref h0), (1, .ref k0), (2, .int x2), (3, .int x3), (4, .int x4), (5, .int x5), (6, .int x6), (7, .int x7), (8, .int x8), (9, .long z.1), (11, .long z.2.1), (13, .int z.2.2.1)] [] [OB cy h0 hs ta z.2.2.2, OB cy k0 ks tb v1] := by
  unfold f_L_weighs_B117 at hf
  refine g_iload X dL_weighs_117 11 rfl ?_
  refine g_iload X dL_weighs_119 4 rfl ?_
  refine g_icmp_ge X 191 dL_weighs_121 (by decide) (fun c1183 => ?_) (fun c1183 => ?_)
  · have hf := opos c1183 hf
    refine g_widen (k := (cb + 4)) (n := (sb + 24)) (by omega) (by omega) ?_
    refine g_sub [0, 1, 2, 3, 4, 5, 6, 7, 8, 9, 10] (lv' := [(0, .ref h0), (1, .ref k0), (2, .int x2), (3, .int x3), (4, .int x4), (5, .int x5), (6, .int x6), (7, .int x7), (8, .int x8), (9, .long z.1), (11, .long z.2.1)]) rfl ?_
    exact K2 (z.1, z.2.1, z.2.2.2) (Option.some.inj hf).symm
  · have hf := oneg c1183 hf
    refine g_lload X dL_weighs_124 9 rfl ?_
    refine g_iload X dL_weighs_126 11 rfl ?_
    refine g_bipush X (60 : Int32) dL_weighs_128 (by decide) ?_
    refine g_icmp_ge X 149 dL_weighs_130 (by decide) (fun c1182 => ?_) (fun c1182 => ?_)
    · have hf := opos c1182 hf
      refine g_lconst X (0 : Int64) dL_weighs_149 (by decide) ?_
      refine g_widen (k := (cb + 2)) (n := (sb + 12)) (by omega) (by omega) ?_
      refine g_sub [0, 1, 2, 3, 4, 5, 6, 7, 8, 10, 11] (lv' := [(0, .ref h0), (1, .ref k0), (2, .int x2), (3, .int x3), (4, .int x4), (5, .int x5), (6, .int x6), (7, .int x7), (8, .int x8), (11, .long z.2.1), (13, .int z.2.2.1)]) rfl ?_
      exact j_L_weighs_B117_b150 X hr hfl hk1 hk2 z.2.2.2 v1 x2 x3 x4 x5 x6 x7 x8 z.2.1 z.2.2.1 (0 : Int64) z.1 hf K1 K2
    · have hf := oneg c1182 hf
      refine g_aload_n X dL_weighs_133 0 rfl rfl ?_
      refine g_iconst X (4 : Int32) dL_weighs_134 (by decide) ?_
      refine g_iload X dL_weighs_135 11 rfl ?_
      refine g_iconst X (0 : Int32) dL_weighs_137 (by decide) ?_
      refine g_iconst X (0 : Int32) dL_weighs_138 (by decide) ?_
      obtain ⟨q1181, hq1181, hf⟩ := obind hf
      refine g_callS (gs' := [OB cy h0 hs ta q1181.2, OB cy k0 ks tb v1]) (rest := [.long z.1]) X dL_weighs_139 (o_L_call l D cy ad h0 hs ta z.2.2.2 (4 : Int32) z.2.2.1 (0 : Int32) (0 : Int32) hfl hq1181) mf_L_call ms_L_call lkm_L_144 ⟨(Nat.le_of_ble_eq_true rfl), (Nat.le_of_ble_eq_true rfl), hk1 2 (by decide), hk2 12 (by decide)⟩ [0, 1] _ (by decide : [0, 1].Perm (List.range 2)) rfl (by decide : [0, 1].Perm (List.range 2)) rfl (Nat.le_of_ble_eq_true rfl) rfl ?_
      refine g_cs (c' := (cb + 2)) (s' := (sb + 12)) rfl rfl ?_
      refine g_i2l X dL_weighs_142 ?_
      refine g_iload X dL_weighs_143 11 rfl ?_
      refine g_lshl X dL_weighs_145 ?_
      refine g_goto X 150 dL_weighs_146 (by decide) ?_
      refine g_sub [0, 1, 2, 3, 4, 5, 6, 7, 8, 10, 11] (lv' := [(0, .ref h0), (1, .ref k0), (2, .int x2), (3, .int x3), (4, .int x4), (5, .int x5), (6, .int x6), (7, .int x7), (8, .int x8), (11, .long z.2.1), (13, .int z.2.2.1)]) rfl ?_
      exact j_L_weighs_B117_b150 X hr hfl hk1 hk2 q1181.2 v1 x2 x3 x4 x5 x6 x7 x8 z.2.1 z.2.2.1 ((q1181.1.toInt64) <<< (z.2.2.1.toInt64 &&& 63)) z.1 hf K1 K2
set_option maxRecDepth 100000 in
set_option maxHeartbeats 4000000 in
theorem w_L_weighs_B117 {p : Program} {l : Launch} {e : Env} {s : State} {m : MethodId} {args : Array Value} {below : List Frame} {meth : Method} {c : Code} {A : Nat → Prop} {D : va_G} {cy : Nat → ClassId} {ad : (Nat → Nat) × (Nat → Nat)} {Q : State → Prop} (X : gK p s m args meth c A D cy ad cL_weighs 18 RL) (hr : meth.sig.returnType = (some .boolean)) (hfl : l.stackTraces = false) {h0 k0 : Nat} {hs ks : Nat → Nat} {ta tb : TAd} (v1 : OBv) (x2 : Int32) (x3 : Int32) (x4 : Int32) (x5 : Int32) (x6 : Int32) (x7 : Int32) (x8 : Int32) : ∀ {n : Nat} {cb sb : Nat} {z : Int64 × Int64 × Int32 × OBv} {q : (Int64 × Int64 × OBv)} (hf : itl (f_L_weighs_B117 v1 x2 x3 x4 x5 x6 x7 x8) n z = some q) (h1 : cb + n * 4 ≤ rmL_weighs.cells) (h2 : sb + n * 24 ≤ rmL_weighs.slots) (K : GW p l e rmL_weighs s m args below meth c A D 18 (cb + n * 4) (sb + n * 24) Q 191 [(0, .ref h0), (1, .ref k0), (2, .int x2), (3, .int x3), (4, .int x4), (5, .int x5), (6, .int x6), (7, .int x7), (8, .int x8), (9, .long q.1), (11, .long q.2.1)] [] [OB cy h0 hs ta q.2.2, OB cy k0 ks tb v1]), GW p l e rmL_weighs s m args below meth c A D 18 cb sb Q 117 [(0, .ref h0), (1, .ref k0), (2, .int x2), (3, .int x3), (4, .int x4), (5, .int x5), (6, .int x6), (7, .int x7), (8, .int x8), (9, .long z.1), (11, .long z.2.1), (13, .int z.2.2.1)] [] [OB cy h0 hs ta z.2.2.2, OB cy k0 ks tb v1] := by
  intro n
  induction n with
  | zero => intro cb sb z q hf; exact nomatch hf
  | succ n ih =>
    intro cb sb z q hf h1 h2 K
    have e1 : cb + 4 + n * 4 = cb + (n + 1) * 4 := by rw [Nat.succ_mul]; omega
    have e2 : sb + 24 + n * 24 = sb + (n + 1) * 24 := by rw [Nat.succ_mul]; omega
    cases hq : f_L_weighs_B117 v1 x2 x3 x4 x5 x6 x7 x8 z with
    | none => rw [itl, hq] at hf; exact nomatch hf
    | some q9 =>
      rw [itl, hq] at hf
      refine b_L_weighs_B117 X hr hfl (fun k hk => by omega) (fun k hk => by omega) v1 x2 x3 x4 x5 x6 x7 x8 z hq (fun s' hs => ?_) (fun e' he => ?_)
      · subst hs
        exact ih hf (by omega) (by omega) (by rw [e1, e2]; exact K)
      · subst he
        cases (Option.some.inj hf)
        exact g_widen (by omega) (by omega) K
def f_L_weighs_B305_b367 (v0 : OBv) (v1 : OBv) (x4 : Int32) (x5 : Int32) (x9 : Int64) (x11 : Int64) (x15 : Int32) (y0 : Bool) : Option ((Bool × Int32 × OBv) ⊕ ((Bool × OBv))) :=
  some (.inl (y0, (x15 + (1 : Int32)), v0))
set_option maxRecDepth 100000 in
set_option maxHeartbeats 4000000 in
theorem j_L_weighs_B305_b367 {p : Program} {l : Launch} {e : Env} {s : State} {m : MethodId} {args : Array Value} {below : List Frame} {meth : Method} {c : Code} {A : Nat → Prop} {D : va_G} {cy : Nat → ClassId} {ad : (Nat → Nat) × (Nat → Nat)} {Q : State → Prop} (X : gK p s m args meth c A D cy ad cL_weighs 18 RL) (hr : meth.sig.returnType = (some .boolean)) (hfl : l.stackTraces = false) {cb sb : Nat} (hk1 : ∀ k, k ≤ 2 → cb + k ≤ rmL_weighs.cells) (hk2 : ∀ k, k ≤ 12 → sb + k ≤ rmL_weighs.slots) {h0 k0 : Nat} {hs ks : Nat → Nat} {ta tb : TAd} (v0 : OBv) (v1 : OBv) (x4 : Int32) (x5 : Int32) (x9 : Int64) (x11 : Int64) (x15 : Int32) (y0 : Bool) {q : (Bool × Int32 × OBv) ⊕ ((Bool × OBv))} (hf : f_L_weighs_B305_b367 v0 v1 x4 x5 x9 x11 x15 y0 = some q) (K1 : ∀ s' : Bool × Int32 × OBv, q = .inl s' → GW p l e rmL_weighs s m args below meth c A D 18 (cb + 2) (sb + 12) Q 305 [(0, .ref h0), (1, .ref k0), (4, .int x4), (5, .int x5), (9, .long x9), (11, .long x11), (14, .int (b2i s'.1)), (15, .int s'.2.1)] [] [OB cy h0 hs ta s'.2.2, OB cy k0 ks tb v1]) (K2 : ∀ e' : Bool × OBv, q = .inr (e') → GW p l e rmL_weighs s m args below meth c A D 18 (cb + 2) (sb + 12) Q 375 [(0, .ref h0), (1, .ref k0), (5, .int x5), (14, .int (b2i e'.1))] [] [OB cy h0 hs ta e'.2, OB cy k0 ks tb v1]) : GW p l e rmL_weighs s m args below meth c A D 18 (cb + 2) (sb + 12) Q 367 [(0, .ref h0), (1, .ref k0), (4, .int x4), (5, .int x5), (9, .long x9), (11, .long x11), (15, .int x15)] [.int (b2i y0)] [OB cy h0 hs ta v0, OB cy k0 ks tb v1] := by
  unfold f_L_weighs_B305_b367 at hf
  refine g_istore (lv' := [(0, .ref h0), (1, .ref k0), (4, .int x4), (5, .int x5), (9, .long x9), (11, .long x11), (14, .int (b2i y0)), (15, .int x15)]) X dL_weighs_367 [1, 2, 3, 4, 5, 6, 0, 7] (Nat.le_of_ble_eq_true rfl) rfl ?_
  refine g_iinc (lv' := [(0, .ref h0), (1, .ref k0), (4, .int x4), (5, .int x5), (9, .long x9), (11, .long x11), (14, .int (b2i y0)), (15, .int (x15 + (1 : Int32)))]) (v := (1 : Int32)) X dL_weighs_369 7 rfl (by decide) [1, 2, 3, 4, 5, 6, 7, 0] (Nat.le_of_ble_eq_true rfl) rfl ?_
  refine g_goto X 305 dL_weighs_372 (by decide) ?_
  exact K1 (y0, (x15 + (1 : Int32)), v0) (Option.some.inj hf).symm
def f_L_weighs_B305_b344 (v0 : OBv) (v1 : OBv) (x4 : Int32) (x5 : Int32) (x9 : Int64) (x11 : Int64) (x15 : Int32) (y0 : Int64) : Option ((Bool × Int32 × OBv) ⊕ ((Bool × OBv))) :=
  (f_O_call v0 (4 : Int32) x15 (0 : Int32) (0 : Int32)).bind (fun q1187 => if 0 < (lg_cmp (q1187.1.toInt64) y0) then f_L_weighs_B305_b367 q1187.2 v1 x4 x5 x9 x11 x15 false else f_L_weighs_B305_b367 q1187.2 v1 x4 x5 x9 x11 x15 true)
set_option maxRecDepth 100000 in
set_option maxHeartbeats 4000000 in
theorem j_L_weighs_B305_b344 {p : Program} {l : Launch} {e : Env} {s : State} {m : MethodId} {args : Array Value} {below : List Frame} {meth : Method} {c : Code} {A : Nat → Prop} {D : va_G} {cy : Nat → ClassId} {ad : (Nat → Nat) × (Nat → Nat)} {Q : State → Prop} (X : gK p s m args meth c A D cy ad cL_weighs 18 RL) (hr : meth.sig.returnType = (some .boolean)) (hfl : l.stackTraces = false) {cb sb : Nat} (hk1 : ∀ k, k ≤ 2 → cb + k ≤ rmL_weighs.cells) (hk2 : ∀ k, k ≤ 12 → sb + k ≤ rmL_weighs.slots) {h0 k0 : Nat} {hs ks : Nat → Nat} {ta tb : TAd} (v0 : OBv) (v1 : OBv) (x4 : Int32) (x5 : Int32) (x9 : Int64) (x11 : Int64) (x15 : Int32) (y0 : Int64) {q : (Bool × Int32 × OBv) ⊕ ((Bool × OBv))} (hf : f_L_weighs_B305_b344 v0 v1 x4 x5 x9 x11 x15 y0 = some q) (K1 : ∀ s' : Bool × Int32 × OBv, q = .inl s' → GW p l e rmL_weighs s m args below meth c A D 18 (cb + 2) (sb + 12) Q 305 [(0, .ref h0), (1, .ref k0), (4, .int x4), (5, .int x5), (9, .long x9), (11, .long x11), (14, .int (b2i s'.1)), (15, .int s'.2.1)] [] [OB cy h0 hs ta s'.2.2, OB cy k0 ks tb v1]) (K2 : ∀ e' : Bool × OBv, q = .inr (e') → GW p l e rmL_weighs s m args below meth c A D 18 (cb + 2) (sb + 12) Q 375 [(0, .ref h0), (1, .ref k0), (5, .int x5), (14, .int (b2i e'.1))] [] [OB cy h0 hs ta e'.2, OB cy k0 ks tb v1]) : GW p l e rmL_weighs s m args below meth c A D 18 cb sb Q 344 [(0, .ref h0), (1, .ref k0), (4, .int x4), (5, .int x5), (9, .long x9), (11, .long x11), (15, .int x15)] [.long y0] [OB cy h0 hs ta v0, OB cy k0 ks tb v1] := by
  unfold f_L_weighs_B305_b344 at hf
  refine g_lstore (lv' := [(0, .ref h0), (1, .ref k0), (4, .int x4), (5, .int x5), (9, .long x9), (11, .long x11), (15, .int x15), (16, .long y0)]) X dL_weighs_344 [1, 2, 3, 4, 5, 6, 7, 0] (Nat.le_of_ble_eq_true rfl) rfl ?_
  refine g_aload_n X dL_weighs_346 0 rfl rfl ?_
  refine g_iconst X (4 : Int32) dL_weighs_347 (by decide) ?_
  refine g_iload X dL_weighs_348 6 rfl ?_
  refine g_iconst X (0 : Int32) dL_weighs_350 (by decide) ?_
  refine g_iconst X (0 : Int32) dL_weighs_351 (by decide) ?_
  obtain ⟨q1187, hq1187, hf⟩ := obind hf
  refine g_callS (gs' := [OB cy h0 hs ta q1187.2, OB cy k0 ks tb v1]) (rest := []) X dL_weighs_352 (o_L_call l D cy ad h0 hs ta v0 (4 : Int32) x15 (0 : Int32) (0 : Int32) hfl hq1187) mf_L_call ms_L_call lkm_L_144 ⟨(Nat.le_of_ble_eq_true rfl), (Nat.le_of_ble_eq_true rfl), hk1 2 (by decide), hk2 12 (by decide)⟩ [0, 1] _ (by decide : [0, 1].Perm (List.range 2)) rfl (by decide : [0, 1].Perm (List.range 2)) rfl (Nat.le_of_ble_eq_true rfl) rfl ?_
  refine g_cs (c' := (cb + 2)) (s' := (sb + 12)) rfl rfl ?_
  refine g_i2l X dL_weighs_355 ?_
  refine g_lload X dL_weighs_356 7 rfl ?_
  refine g_lcmp X dL_weighs_358 ?_
  refine g_if_gt X 366 dL_weighs_359 (by decide) (fun c1188 => ?_) (fun c1188 => ?_)
  · have hf := opos c1188 hf
    refine g_iconst X (0 : Int32) dL_weighs_366 (by decide) ?_
    refine g_sub [0, 1, 2, 3, 4, 5, 6] (lv' := [(0, .ref h0), (1, .ref k0), (4, .int x4), (5, .int x5), (9, .long x9), (11, .long x11), (15, .int x15)]) rfl ?_
    exact j_L_weighs_B305_b367 X hr hfl hk1 hk2 q1187.2 v1 x4 x5 x9 x11 x15 false hf K1 K2
  · have hf := oneg c1188 hf
    refine g_iconst X (1 : Int32) dL_weighs_362 (by decide) ?_
    refine g_goto X 367 dL_weighs_363 (by decide) ?_
    refine g_sub [0, 1, 2, 3, 4, 5, 6] (lv' := [(0, .ref h0), (1, .ref k0), (4, .int x4), (5, .int x5), (9, .long x9), (11, .long x11), (15, .int x15)]) rfl ?_
    exact j_L_weighs_B305_b367 X hr hfl hk1 hk2 q1187.2 v1 x4 x5 x9 x11 x15 true hf K1 K2
def f_L_weighs_B305 (v1 : OBv) (x4 : Int32) (x5 : Int32) (x9 : Int64) (x11 : Int64) (z : Bool × Int32 × OBv) : Option ((Bool × Int32 × OBv) ⊕ ((Bool × OBv))) :=
  if x4 ≤ z.2.1 then some (.inr ((z.1, z.2.2))) else if (b2i z.1) = 0 then some (.inr ((z.1, z.2.2))) else if (60 : Int32) ≤ z.2.1 then f_L_weighs_B305_b344 z.2.2 v1 x4 x5 x9 x11 z.2.1 ((x11 >>> ((z.2.1 - (60 : Int32)).toInt64 &&& 63)) &&& (1 : Int64)) else f_L_weighs_B305_b344 z.2.2 v1 x4 x5 x9 x11 z.2.1 ((x9 >>> (z.2.1.toInt64 &&& 63)) &&& (1 : Int64))
set_option maxRecDepth 100000 in
set_option maxHeartbeats 4000000 in
theorem b_L_weighs_B305 {p : Program} {l : Launch} {e : Env} {s : State} {m : MethodId} {args : Array Value} {below : List Frame} {meth : Method} {c : Code} {A : Nat → Prop} {D : va_G} {cy : Nat → ClassId} {ad : (Nat → Nat) × (Nat → Nat)} {Q : State → Prop} (X : gK p s m args meth c A D cy ad cL_weighs 18 RL) (hr : meth.sig.returnType = (some .boolean)) (hfl : l.stackTraces = false) {cb sb : Nat} (hk1 : ∀ k, k ≤ 2 → cb + k ≤ rmL_weighs.cells) (hk2 : ∀ k, k ≤ 12 → sb + k ≤ rmL_weighs.slots) {h0 k0 : Nat} {hs ks : Nat → Nat} {ta tb : TAd} (v1 : OBv) (x4 : Int32) (x5 : Int32) (x9 : Int64) (x11 : Int64) (z : Bool × Int32 × OBv) {q : (Bool × Int32 × OBv) ⊕ ((Bool × OBv))} (hf : f_L_weighs_B305 v1 x4 x5 x9 x11 z = some q) (K1 : ∀ s' : Bool × Int32 × OBv, q = .inl s' → GW p l e rmL_weighs s m args below meth c A D 18 (cb + 2) (sb + 12) Q 305 [(0, .ref h0), (1, .ref k0), (4, .int x4), (5, .int x5), (9, .long x9), (11, .long x11), (14, .int (b2i s'.1)), (15, .int s'.2.1)] [] [OB cy h0 hs ta s'.2.2, OB cy k0 ks tb v1]) (K2 : ∀ e' : Bool × OBv, q = .inr (e') → GW p l e rmL_weighs s m args below meth c A D 18 (cb + 2) (sb + 12) Q 375 [(0, .ref h0), (1, .ref k0), (5, .int x5), (14, .int (b2i e'.1))] [] [OB cy h0 hs ta e'.2, OB cy k0 ks tb v1]) : GW p l e rmL_weighs s m args below meth c A D 18 cb sb Q 305 [(0, .ref h0), (1, .ref k0), (4, .int x4), (5, .int x5), (9, .long x9), (11, .long x11), (14, .int (b2i z.1)), (15, .int z.2.1)] [] [OB cy h0 hs ta z.2.2, OB cy k0 ks tb v1] := by
  unfold f_L_weighs_B305 at hf
  refine g_iload X dL_weighs_305 7 rfl ?_
  refine g_iload X dL_weighs_307 2 rfl ?_
  refine g_icmp_ge X 375 dL_weighs_309 (by decide) (fun c1191 => ?_) (fun c1191 => ?_)
  · have hf := opos c1191 hf
    refine g_widen (k := (cb + 2)) (n := (sb + 12)) (by omega) (by omega) ?_
    refine g_sub [0, 1, 3, 6] (lv' := [(0, .ref h0), (1, .ref k0), (5, .int x5), (14, .int (b2i z.1))]) rfl ?_
    exact K2 (z.1, z.2.2) (Option.some.inj hf).symm
  · have hf := oneg c1191 hf
    refine g_iload X dL_weighs_312 6 rfl ?_
    refine g_if_eq X 375 dL_weighs_314 (by decide) (fun c1190 => ?_) (fun c1190 => ?_)
    · have hf := opos c1190 hf
      refine g_widen (k := (cb + 2)) (n := (sb + 12)) (by omega) (by omega) ?_
      refine g_sub [0, 1, 3, 6] (lv' := [(0, .ref h0), (1, .ref k0), (5, .int x5), (14, .int (b2i z.1))]) rfl ?_
      exact K2 (z.1, z.2.2) (Option.some.inj hf).symm
    · have hf := oneg c1190 hf
      refine g_iload X dL_weighs_317 7 rfl ?_
      refine g_bipush X (60 : Int32) dL_weighs_319 (by decide) ?_
      refine g_icmp_ge X 334 dL_weighs_321 (by decide) (fun c1189 => ?_) (fun c1189 => ?_)
      · have hf := opos c1189 hf
        refine g_lload X dL_weighs_334 5 rfl ?_
        refine g_iload X dL_weighs_336 7 rfl ?_
        refine g_bipush X (60 : Int32) dL_weighs_338 (by decide) ?_
        refine g_isub X dL_weighs_340 ?_
        refine g_lshr X dL_weighs_341 ?_
        refine g_lconst X (1 : Int64) dL_weighs_342 (by decide) ?_
        refine g_land X dL_weighs_343 ?_
        refine g_sub [0, 1, 2, 3, 4, 5, 7] (lv' := [(0, .ref h0), (1, .ref k0), (4, .int x4), (5, .int x5), (9, .long x9), (11, .long x11), (15, .int z.2.1)]) rfl ?_
        exact j_L_weighs_B305_b344 X hr hfl hk1 hk2 z.2.2 v1 x4 x5 x9 x11 z.2.1 ((x11 >>> ((z.2.1 - (60 : Int32)).toInt64 &&& 63)) &&& (1 : Int64)) hf K1 K2
      · have hf := oneg c1189 hf
        refine g_lload X dL_weighs_324 4 rfl ?_
        refine g_iload X dL_weighs_326 7 rfl ?_
        refine g_lshr X dL_weighs_328 ?_
        refine g_lconst X (1 : Int64) dL_weighs_329 (by decide) ?_
        refine g_land X dL_weighs_330 ?_
        refine g_goto X 344 dL_weighs_331 (by decide) ?_
        refine g_sub [0, 1, 2, 3, 4, 5, 7] (lv' := [(0, .ref h0), (1, .ref k0), (4, .int x4), (5, .int x5), (9, .long x9), (11, .long x11), (15, .int z.2.1)]) rfl ?_
        exact j_L_weighs_B305_b344 X hr hfl hk1 hk2 z.2.2 v1 x4 x5 x9 x11 z.2.1 ((x9 >>> (z.2.1.toInt64 &&& 63)) &&& (1 : Int64)) hf K1 K2
set_option maxRecDepth 100000 in
set_option maxHeartbeats 4000000 in
theorem w_L_weighs_B305 {p : Program} {l : Launch} {e : Env} {s : State} {m : MethodId} {args : Array Value} {below : List Frame} {meth : Method} {c : Code} {A : Nat → Prop} {D : va_G} {cy : Nat → ClassId} {ad : (Nat → Nat) × (Nat → Nat)} {Q : State → Prop} (X : gK p s m args meth c A D cy ad cL_weighs 18 RL) (hr : meth.sig.returnType = (some .boolean)) (hfl : l.stackTraces = false) {h0 k0 : Nat} {hs ks : Nat → Nat} {ta tb : TAd} (v1 : OBv) (x4 : Int32) (x5 : Int32) (x9 : Int64) (x11 : Int64) : ∀ {n : Nat} {cb sb : Nat} {z : Bool × Int32 × OBv} {q : (Bool × OBv)} (hf : itl (f_L_weighs_B305 v1 x4 x5 x9 x11) n z = some q) (h1 : cb + n * 2 ≤ rmL_weighs.cells) (h2 : sb + n * 12 ≤ rmL_weighs.slots) (K : GW p l e rmL_weighs s m args below meth c A D 18 (cb + n * 2) (sb + n * 12) Q 375 [(0, .ref h0), (1, .ref k0), (5, .int x5), (14, .int (b2i q.1))] [] [OB cy h0 hs ta q.2, OB cy k0 ks tb v1]), GW p l e rmL_weighs s m args below meth c A D 18 cb sb Q 305 [(0, .ref h0), (1, .ref k0), (4, .int x4), (5, .int x5), (9, .long x9), (11, .long x11), (14, .int (b2i z.1)), (15, .int z.2.1)] [] [OB cy h0 hs ta z.2.2, OB cy k0 ks tb v1] := by
  intro n
  induction n with
  | zero => intro cb sb z q hf; exact nomatch hf
  | succ n ih =>
    intro cb sb z q hf h1 h2 K
    have e1 : cb + 2 + n * 2 = cb + (n + 1) * 2 := by rw [Nat.succ_mul]; omega
    have e2 : sb + 12 + n * 12 = sb + (n + 1) * 12 := by rw [Nat.succ_mul]; omega
    cases hq : f_L_weighs_B305 v1 x4 x5 x9 x11 z with
    | none => rw [itl, hq] at hf; exact nomatch hf
    | some q9 =>
      rw [itl, hq] at hf
      refine b_L_weighs_B305 X hr hfl (fun k hk => by omega) (fun k hk => by omega) v1 x4 x5 x9 x11 z hq (fun s' hs => ?_) (fun e' he => ?_)
      · subst hs
        exact ih hf (by omega) (by omega) (by rw [e1, e2]; exact K)
      · subst he
        cases (Option.some.inj hf)
        exact g_widen (by omega) (by omega) K
def f_L_weighs_b375 (v0 : OBv) (v1 : OBv) (x5 : Int32) (x14 : Bool) : Option (Bool × OBv × OBv) :=
  if (b2i x14) = 0 then some (false, v0, v1) else (f_O_call v0 (11 : Int32) (0 : Int32) (0 : Int32) (0 : Int32)).bind (fun q1194 => (f_L_thrown q1194.1).bind (fun q1195 => if (b2i q1195) = 0 then (f_O_call v1 (11 : Int32) (0 : Int32) (0 : Int32) (0 : Int32)).bind (fun q1196 => (f_L_thrown q1196.1).bind (fun q1197 => if (b2i q1197) = 0 then (f_O_call q1194.2 (2 : Int32) (2 : Int32) (0 : Int32) (0 : Int32)).bind (fun q1198 => if q1198.1 = x5 then some (true, q1198.2, q1196.2) else some (false, q1198.2, q1196.2)) else some (false, q1194.2, q1196.2))) else some (false, q1194.2, v1)))
set_option maxRecDepth 100000 in
set_option maxHeartbeats 4000000 in
theorem j_L_weighs_b375 {p : Program} {l : Launch} {e : Env} {s : State} {m : MethodId} {args : Array Value} {below : List Frame} {meth : Method} {c : Code} {A : Nat → Prop} {D : va_G} {cy : Nat → ClassId} {ad : (Nat → Nat) × (Nat → Nat)} (X : gK p s m args meth c A D cy ad cL_weighs 18 RL) (hr : meth.sig.returnType = (some .boolean)) (hfl : l.stackTraces = false) {h0 k0 : Nat} {hs ks : Nat → Nat} {ta tb : TAd} (v0 : OBv) (v1 : OBv) (x5 : Int32) (x14 : Bool) {q : Bool × OBv × OBv} (hf : f_L_weighs_b375 v0 v1 x5 x14 = some q) : GW p l e rmL_weighs s m args below meth c A D 18 478 2868 (MQ below (cmQ D cy A (some (.int (b2i q.1))) ([OB cy h0 hs ta q.2.1, OB cy k0 ks tb q.2.2] : List va_W).flatten) args s 484 2904 A) 375 [(0, .ref h0), (1, .ref k0), (5, .int x5), (14, .int (b2i x14))] [] [OB cy h0 hs ta v0, OB cy k0 ks tb v1] := by
  unfold f_L_weighs_b375 at hf
  refine g_iload X dL_weighs_375 3 rfl ?_
  refine g_if_eq X 427 dL_weighs_377 (by decide) (fun c1202 => ?_) (fun c1202 => ?_)
  · have hf := opos c1202 hf
    refine g_widen (k := 484) (n := 2904) (Nat.le_of_ble_eq_true rfl) (Nat.le_of_ble_eq_true rfl) ?_
    refine g_iconst X (0 : Int32) dL_weighs_427 (by decide) ?_
    have hf := Option.some.inj hf
    subst hf
    exact g_zret (b := false) X hr dL_weighs_428
  · have hf := oneg c1202 hf
    refine g_aload_n X dL_weighs_380 0 rfl rfl ?_
    refine g_bipush X (11 : Int32) dL_weighs_381 (by decide) ?_
    refine g_iconst X (0 : Int32) dL_weighs_383 (by decide) ?_
    refine g_iconst X (0 : Int32) dL_weighs_384 (by decide) ?_
    refine g_iconst X (0 : Int32) dL_weighs_385 (by decide) ?_
    obtain ⟨q1194, hq1194, hf⟩ := obind hf
    refine g_callS (gs' := [OB cy h0 hs ta q1194.2, OB cy k0 ks tb v1]) (rest := []) X dL_weighs_386 (o_L_call l D cy ad h0 hs ta v0 (11 : Int32) (0 : Int32) (0 : Int32) (0 : Int32) hfl hq1194) mf_L_call ms_L_call lkm_L_144 ⟨(Nat.le_of_ble_eq_true rfl), (Nat.le_of_ble_eq_true rfl), (Nat.le_of_ble_eq_true rfl), (Nat.le_of_ble_eq_true rfl)⟩ [0, 1] _ (by decide : [0, 1].Perm (List.range 2)) rfl (by decide : [0, 1].Perm (List.range 2)) rfl (Nat.le_of_ble_eq_true rfl) rfl ?_
    refine g_cs (c' := 480) (s' := 2880) rfl rfl ?_
    obtain ⟨q1195, hq1195, hf⟩ := obind hf
    refine g_callS (gs' := [OB cy h0 hs ta q1194.2, OB cy k0 ks tb v1]) (rest := []) X dL_weighs_389 (c_L_thrown l D cy ad q1194.1 hq1195) mf_L_thrown ms_L_thrown lkm_L_201 ⟨(Nat.le_of_ble_eq_true rfl), (Nat.le_of_ble_eq_true rfl), (Nat.le_of_ble_eq_true rfl), (Nat.le_of_ble_eq_true rfl)⟩ [0, 1] _ (by decide : [0, 1].Perm (List.range 2)) rfl (by decide : [0, 1].Perm (List.range 2)) rfl (Nat.le_of_ble_eq_true rfl) rfl ?_
    refine g_if_ne X 427 dL_weighs_392 (by decide) (fun c1201 => ?_) (fun c1201 => ?_)
    · have hf := oneg c1201 hf
      refine g_widen (k := 484) (n := 2904) (Nat.le_of_ble_eq_true rfl) (Nat.le_of_ble_eq_true rfl) ?_
      refine g_iconst X (0 : Int32) dL_weighs_427 (by decide) ?_
      have hf := Option.some.inj hf
      subst hf
      exact g_zret (b := false) X hr dL_weighs_428
    · have hf := opos c1201 hf
      refine g_aload_n X dL_weighs_395 1 rfl rfl ?_
      refine g_bipush X (11 : Int32) dL_weighs_396 (by decide) ?_
      refine g_iconst X (0 : Int32) dL_weighs_398 (by decide) ?_
      refine g_iconst X (0 : Int32) dL_weighs_399 (by decide) ?_
      refine g_iconst X (0 : Int32) dL_weighs_400 (by decide) ?_
      obtain ⟨q1196, hq1196, hf⟩ := obind hf
      refine g_callS (gs' := [OB cy h0 hs ta q1194.2, OB cy k0 ks tb q1196.2]) (rest := []) X dL_weighs_401 (o_L_call l D cy ad k0 ks tb v1 (11 : Int32) (0 : Int32) (0 : Int32) (0 : Int32) hfl hq1196) mf_L_call ms_L_call lkm_L_144 ⟨(Nat.le_of_ble_eq_true rfl), (Nat.le_of_ble_eq_true rfl), (Nat.le_of_ble_eq_true rfl), (Nat.le_of_ble_eq_true rfl)⟩ [1, 0] _ (by decide : [1, 0].Perm (List.range 2)) rfl (by decide : [1, 0].Perm (List.range 2)) rfl (Nat.le_of_ble_eq_true rfl) rfl ?_
      refine g_cs (c' := 482) (s' := 2892) rfl rfl ?_
      obtain ⟨q1197, hq1197, hf⟩ := obind hf
      refine g_callS (gs' := [OB cy h0 hs ta q1194.2, OB cy k0 ks tb q1196.2]) (rest := []) X dL_weighs_404 (c_L_thrown l D cy ad q1196.1 hq1197) mf_L_thrown ms_L_thrown lkm_L_201 ⟨(Nat.le_of_ble_eq_true rfl), (Nat.le_of_ble_eq_true rfl), (Nat.le_of_ble_eq_true rfl), (Nat.le_of_ble_eq_true rfl)⟩ [0, 1] _ (by decide : [0, 1].Perm (List.range 2)) rfl (by decide : [0, 1].Perm (List.range 2)) rfl (Nat.le_of_ble_eq_true rfl) rfl ?_
      refine g_if_ne X 427 dL_weighs_407 (by decide) (fun c1200 => ?_) (fun c1200 => ?_)
      · have hf := oneg c1200 hf
        refine g_widen (k := 484) (n := 2904) (Nat.le_of_ble_eq_true rfl) (Nat.le_of_ble_eq_true rfl) ?_
        refine g_iconst X (0 : Int32) dL_weighs_427 (by decide) ?_
        have hf := Option.some.inj hf
        subst hf
        exact g_zret (b := false) X hr dL_weighs_428
      · have hf := opos c1200 hf
        refine g_aload_n X dL_weighs_410 0 rfl rfl ?_
        refine g_iconst X (2 : Int32) dL_weighs_411 (by decide) ?_
        refine g_iconst X (2 : Int32) dL_weighs_412 (by decide) ?_
        refine g_iconst X (0 : Int32) dL_weighs_413 (by decide) ?_
        refine g_iconst X (0 : Int32) dL_weighs_414 (by decide) ?_
        obtain ⟨q1198, hq1198, hf⟩ := obind hf
        refine g_callS (gs' := [OB cy h0 hs ta q1198.2, OB cy k0 ks tb q1196.2]) (rest := []) X dL_weighs_415 (o_L_call l D cy ad h0 hs ta q1194.2 (2 : Int32) (2 : Int32) (0 : Int32) (0 : Int32) hfl hq1198) mf_L_call ms_L_call lkm_L_144 ⟨(Nat.le_of_ble_eq_true rfl), (Nat.le_of_ble_eq_true rfl), (Nat.le_of_ble_eq_true rfl), (Nat.le_of_ble_eq_true rfl)⟩ [0, 1] _ (by decide : [0, 1].Perm (List.range 2)) rfl (by decide : [0, 1].Perm (List.range 2)) rfl (Nat.le_of_ble_eq_true rfl) rfl ?_
        refine g_cs (c' := 484) (s' := 2904) rfl rfl ?_
        refine g_iload X dL_weighs_418 2 rfl ?_
        refine g_icmp_ne X 427 dL_weighs_420 (by decide) (fun c1199 => ?_) (fun c1199 => ?_)
        · have hf := oneg c1199 hf
          refine g_iconst X (0 : Int32) dL_weighs_427 (by decide) ?_
          have hf := Option.some.inj hf
          subst hf
          exact g_zret (b := false) X hr dL_weighs_428
        · have hf := opos c1199 hf
          refine g_iconst X (1 : Int32) dL_weighs_423 (by decide) ?_
          refine g_goto X 428 dL_weighs_424 (by decide) ?_
          have hf := Option.some.inj hf
          subst hf
          exact g_zret (b := true) X hr dL_weighs_428
def f_L_weighs_b300 (v0 : OBv) (v1 : OBv) (x4 : Int32) (x5 : Int32) (x9 : Int64) (x11 : Int64) (y0 : Bool) : Option (Bool × OBv × OBv) :=
  (itl (f_L_weighs_B305 v1 x4 x5 x9 x11) 76 (y0, (0 : Int32), v0)).bind (fun q1193 => f_L_weighs_b375 q1193.2 v1 x5 q1193.1)
set_option maxRecDepth 100000 in
set_option maxHeartbeats 4000000 in
theorem j_L_weighs_b300 {p : Program} {l : Launch} {e : Env} {s : State} {m : MethodId} {args : Array Value} {below : List Frame} {meth : Method} {c : Code} {A : Nat → Prop} {D : va_G} {cy : Nat → ClassId} {ad : (Nat → Nat) × (Nat → Nat)} (X : gK p s m args meth c A D cy ad cL_weighs 18 RL) (hr : meth.sig.returnType = (some .boolean)) (hfl : l.stackTraces = false) {h0 k0 : Nat} {hs ks : Nat → Nat} {ta tb : TAd} (v0 : OBv) (v1 : OBv) (x4 : Int32) (x5 : Int32) (x9 : Int64) (x11 : Int64) (y0 : Bool) {q : Bool × OBv × OBv} (hf : f_L_weighs_b300 v0 v1 x4 x5 x9 x11 y0 = some q) : GW p l e rmL_weighs s m args below meth c A D 18 326 1956 (MQ below (cmQ D cy A (some (.int (b2i q.1))) ([OB cy h0 hs ta q.2.1, OB cy k0 ks tb q.2.2] : List va_W).flatten) args s 484 2904 A) 300 [(0, .ref h0), (1, .ref k0), (4, .int x4), (5, .int x5), (9, .long x9), (11, .long x11)] [.int (b2i y0)] [OB cy h0 hs ta v0, OB cy k0 ks tb v1] := by
  unfold f_L_weighs_b300 at hf
  refine g_istore (lv' := [(0, .ref h0), (1, .ref k0), (4, .int x4), (5, .int x5), (9, .long x9), (11, .long x11), (14, .int (b2i y0))]) X dL_weighs_300 [1, 2, 3, 4, 5, 6, 0] (Nat.le_of_ble_eq_true rfl) rfl ?_
  refine g_iconst X (0 : Int32) dL_weighs_302 (by decide) ?_
  refine g_istore (lv' := [(0, .ref h0), (1, .ref k0), (4, .int x4), (5, .int x5), (9, .long x9), (11, .long x11), (14, .int (b2i y0)), (15, .int (0 : Int32))]) X dL_weighs_303 [1, 2, 3, 4, 5, 6, 7, 0] (Nat.le_of_ble_eq_true rfl) rfl ?_
  obtain ⟨q1193, hq1193, hf⟩ := obind hf
  refine w_L_weighs_B305 X hr hfl v1 x4 x5 x9 x11 (n := 76) (cb := 326) (sb := 1956) hq1193 (Nat.le_of_ble_eq_true rfl) (Nat.le_of_ble_eq_true rfl) ?_
  refine g_cs (c' := 478) (s' := 2868) rfl rfl ?_
  exact j_L_weighs_b375 X hr hfl q1193.2 v1 x5 q1193.1 hf
def f_L_weighs_b299 (v0 : OBv) (v1 : OBv) (x4 : Int32) (x5 : Int32) (x9 : Int64) (x11 : Int64) : Option (Bool × OBv × OBv) :=
  f_L_weighs_b300 v0 v1 x4 x5 x9 x11 false
set_option maxRecDepth 100000 in
set_option maxHeartbeats 4000000 in
theorem j_L_weighs_b299 {p : Program} {l : Launch} {e : Env} {s : State} {m : MethodId} {args : Array Value} {below : List Frame} {meth : Method} {c : Code} {A : Nat → Prop} {D : va_G} {cy : Nat → ClassId} {ad : (Nat → Nat) × (Nat → Nat)} (X : gK p s m args meth c A D cy ad cL_weighs 18 RL) (hr : meth.sig.returnType = (some .boolean)) (hfl : l.stackTraces = false) {h0 k0 : Nat} {hs ks : Nat → Nat} {ta tb : TAd} (v0 : OBv) (v1 : OBv) (x4 : Int32) (x5 : Int32) (x9 : Int64) (x11 : Int64) {q : Bool × OBv × OBv} (hf : f_L_weighs_b299 v0 v1 x4 x5 x9 x11 = some q) : GW p l e rmL_weighs s m args below meth c A D 18 326 1956 (MQ below (cmQ D cy A (some (.int (b2i q.1))) ([OB cy h0 hs ta q.2.1, OB cy k0 ks tb q.2.2] : List va_W).flatten) args s 484 2904 A) 299 [(0, .ref h0), (1, .ref k0), (4, .int x4), (5, .int x5), (9, .long x9), (11, .long x11)] [] [OB cy h0 hs ta v0, OB cy k0 ks tb v1] := by
  unfold f_L_weighs_b299 at hf
  refine g_iconst X (0 : Int32) dL_weighs_299 (by decide) ?_
  exact j_L_weighs_b300 X hr hfl v0 v1 x4 x5 x9 x11 false hf
def f_L_weighs_b271 (v0 : OBv) (v1 : OBv) (x2 : Int32) (x3 : Int32) (x4 : Int32) (x5 : Int32) (x9 : Int64) (x11 : Int64) (x13 : Int32) (y0 : Int32) (y1 : Int32) : Option (Bool × OBv × OBv) :=
  if y1 = y0 then (f_O_call v0 (12 : Int32) x2 x3 x13).bind (fun q1205 => (f_O_call q1205.2 (2 : Int32) (2 : Int32) (0 : Int32) (0 : Int32)).bind (fun q1206 => if q1205.1 = q1206.1 then f_L_weighs_b300 q1206.2 v1 x4 x5 x9 x11 true else f_L_weighs_b299 q1206.2 v1 x4 x5 x9 x11)) else f_L_weighs_b299 v0 v1 x4 x5 x9 x11
set_option maxRecDepth 100000 in
set_option maxHeartbeats 4000000 in
theorem j_L_weighs_b271 {p : Program} {l : Launch} {e : Env} {s : State} {m : MethodId} {args : Array Value} {below : List Frame} {meth : Method} {c : Code} {A : Nat → Prop} {D : va_G} {cy : Nat → ClassId} {ad : (Nat → Nat) × (Nat → Nat)} (X : gK p s m args meth c A D cy ad cL_weighs 18 RL) (hr : meth.sig.returnType = (some .boolean)) (hfl : l.stackTraces = false) {h0 k0 : Nat} {hs ks : Nat → Nat} {ta tb : TAd} (v0 : OBv) (v1 : OBv) (x2 : Int32) (x3 : Int32) (x4 : Int32) (x5 : Int32) (x9 : Int64) (x11 : Int64) (x13 : Int32) (y0 : Int32) (y1 : Int32) {q : Bool × OBv × OBv} (hf : f_L_weighs_b271 v0 v1 x2 x3 x4 x5 x9 x11 x13 y0 y1 = some q) : GW p l e rmL_weighs s m args below meth c A D 18 322 1932 (MQ below (cmQ D cy A (some (.int (b2i q.1))) ([OB cy h0 hs ta q.2.1, OB cy k0 ks tb q.2.2] : List va_W).flatten) args s 484 2904 A) 271 [(0, .ref h0), (1, .ref k0), (2, .int x2), (3, .int x3), (4, .int x4), (5, .int x5), (9, .long x9), (11, .long x11), (13, .int x13)] [.int y0, .int y1] [OB cy h0 hs ta v0, OB cy k0 ks tb v1] := by
  unfold f_L_weighs_b271 at hf
  refine g_icmp_ne X 299 dL_weighs_271 (by decide) (fun c1208 => ?_) (fun c1208 => ?_)
  · have hf := oneg c1208 hf
    refine g_widen (k := 326) (n := 1956) (Nat.le_of_ble_eq_true rfl) (Nat.le_of_ble_eq_true rfl) ?_
    refine g_sub [0, 1, 4, 5, 6, 7] (lv' := [(0, .ref h0), (1, .ref k0), (4, .int x4), (5, .int x5), (9, .long x9), (11, .long x11)]) rfl ?_
    exact j_L_weighs_b299 X hr hfl v0 v1 x4 x5 x9 x11 hf
  · have hf := opos c1208 hf
    refine g_aload_n X dL_weighs_274 0 rfl rfl ?_
    refine g_bipush X (12 : Int32) dL_weighs_275 (by decide) ?_
    refine g_iload_n X dL_weighs_277 2 rfl rfl ?_
    refine g_iload_n X dL_weighs_278 3 rfl rfl ?_
    refine g_iload X dL_weighs_279 8 rfl ?_
    obtain ⟨q1205, hq1205, hf⟩ := obind hf
    refine g_callS (gs' := [OB cy h0 hs ta q1205.2, OB cy k0 ks tb v1]) (rest := []) X dL_weighs_281 (o_L_call l D cy ad h0 hs ta v0 (12 : Int32) x2 x3 x13 hfl hq1205) mf_L_call ms_L_call lkm_L_144 ⟨(Nat.le_of_ble_eq_true rfl), (Nat.le_of_ble_eq_true rfl), (Nat.le_of_ble_eq_true rfl), (Nat.le_of_ble_eq_true rfl)⟩ [0, 1] _ (by decide : [0, 1].Perm (List.range 2)) rfl (by decide : [0, 1].Perm (List.range 2)) rfl (Nat.le_of_ble_eq_true rfl) rfl ?_
    refine g_cs (c' := 324) (s' := 1944) rfl rfl ?_
    refine g_aload_n X dL_weighs_284 0 rfl rfl ?_
    refine g_iconst X (2 : Int32) dL_weighs_285 (by decide) ?_
    refine g_iconst X (2 : Int32) dL_weighs_286 (by decide) ?_
    refine g_iconst X (0 : Int32) dL_weighs_287 (by decide) ?_
    refine g_iconst X (0 : Int32) dL_weighs_288 (by decide) ?_
    obtain ⟨q1206, hq1206, hf⟩ := obind hf
    refine g_callS (gs' := [OB cy h0 hs ta q1206.2, OB cy k0 ks tb v1]) (rest := [.int q1205.1]) X dL_weighs_289 (o_L_call l D cy ad h0 hs ta q1205.2 (2 : Int32) (2 : Int32) (0 : Int32) (0 : Int32) hfl hq1206) mf_L_call ms_L_call lkm_L_144 ⟨(Nat.le_of_ble_eq_true rfl), (Nat.le_of_ble_eq_true rfl), (Nat.le_of_ble_eq_true rfl), (Nat.le_of_ble_eq_true rfl)⟩ [0, 1] _ (by decide : [0, 1].Perm (List.range 2)) rfl (by decide : [0, 1].Perm (List.range 2)) rfl (Nat.le_of_ble_eq_true rfl) rfl ?_
    refine g_cs (c' := 326) (s' := 1956) rfl rfl ?_
    refine g_icmp_ne X 299 dL_weighs_292 (by decide) (fun c1207 => ?_) (fun c1207 => ?_)
    · have hf := oneg c1207 hf
      refine g_sub [0, 1, 4, 5, 6, 7] (lv' := [(0, .ref h0), (1, .ref k0), (4, .int x4), (5, .int x5), (9, .long x9), (11, .long x11)]) rfl ?_
      exact j_L_weighs_b299 X hr hfl q1206.2 v1 x4 x5 x9 x11 hf
    · have hf := opos c1207 hf
      refine g_iconst X (1 : Int32) dL_weighs_295 (by decide) ?_
      refine g_goto X 300 dL_weighs_296 (by decide) ?_
      refine g_sub [0, 1, 4, 5, 6, 7] (lv' := [(0, .ref h0), (1, .ref k0), (4, .int x4), (5, .int x5), (9, .long x9), (11, .long x11)]) rfl ?_
      exact j_L_weighs_b300 X hr hfl q1206.2 v1 x4 x5 x9 x11 true hf
def f_L_weighs (v0 : OBv) (v1 : OBv) (p2 : Int32) (p3 : Int32) : Option (Bool × OBv × OBv) :=
  if (p2 ||| p3) = 0 then f_L_weighs_b19 v0 v1 p2 p3 else (f_O_call v0 (2 : Int32) (3 : Int32) (0 : Int32) (0 : Int32)).bind (fun q1173 => if q1173.1 = (20 : Int32) then f_L_weighs_b19 q1173.2 v1 p2 p3 else (f_O_call q1173.2 (2 : Int32) (1 : Int32) (0 : Int32) (0 : Int32)).bind (fun q1174 => (f_O_call q1174.2 (2 : Int32) (2 : Int32) (0 : Int32) (0 : Int32)).bind (fun q1175 => (f_O_call q1175.2 (12 : Int32) p2 p3 (0 : Int32)).bind (fun q1176 => (f_O_call q1176.2 (12 : Int32) p2 p3 (1 : Int32)).bind (fun q1177 => (f_O_call q1177.2 (12 : Int32) p2 p3 (2 : Int32)).bind (fun q1178 => (itl (f_L_weighs_B117 v1 p2 p3 q1174.1 q1175.1 q1176.1 q1177.1 q1178.1) 76 ((0 : Int64), (0 : Int64), (0 : Int32), q1178.2)).bind (fun q1185 => (f_O_call q1185.2.2 (8 : Int32) p2 p3 (0 : Int32)).bind (fun q1186 => if q1186.1 < 0 then f_L_weighs_b299 q1186.2 v1 q1174.1 q1175.1 q1185.1 q1185.2.1 else if (3 : Int32) ≤ q1186.1 then f_L_weighs_b299 q1186.2 v1 q1174.1 q1175.1 q1185.1 q1185.2.1 else (f_O_call v1 (8 : Int32) p2 p3 (0 : Int32)).bind (fun q1203 => if q1203.1 = q1186.1 then if ((q1176.1 + q1177.1) + q1178.1) = q1175.1 then (f_O_call q1186.2 (2 : Int32) (2 : Int32) (0 : Int32) (0 : Int32)).bind (fun q1204 => if q1186.1 = 0 then f_L_weighs_b271 q1204.2 q1203.2 p2 p3 q1174.1 q1175.1 q1185.1 q1185.2.1 q1186.1 q1176.1 q1204.1 else if q1186.1 = (1 : Int32) then f_L_weighs_b271 q1204.2 q1203.2 p2 p3 q1174.1 q1175.1 q1185.1 q1185.2.1 q1186.1 q1177.1 q1204.1 else f_L_weighs_b271 q1204.2 q1203.2 p2 p3 q1174.1 q1175.1 q1185.1 q1185.2.1 q1186.1 q1178.1 q1204.1) else f_L_weighs_b299 q1186.2 q1203.2 q1174.1 q1175.1 q1185.1 q1185.2.1 else f_L_weighs_b299 q1186.2 q1203.2 q1174.1 q1175.1 q1185.1 q1185.2.1)))))))))
set_option maxRecDepth 100000 in
set_option maxHeartbeats 4000000 in
theorem c_L_weighs (l : Launch) (D : va_G) (cy : Nat → ClassId) (ad : (Nat → Nat) × (Nat → Nat)) (h0 : Nat) (hs : Nat → Nat) (ta : TAd) (k0 : Nat) (ks : Nat → Nat) (tb : TAd) (v0 : OBv) (v1 : OBv) (p2 : Int32) (p3 : Int32) (hfl : l.stackTraces = false) {q : Bool × OBv × OBv} (hf : f_L_weighs v0 v1 p2 p3 = some q) : CM l yL_weighs cL_weighs 18 (some .boolean) rmL_weighs D cy ad [.ref h0, .ref k0, .int p2, .int p3] [OB cy h0 hs ta v0, OB cy k0 ks tb v1] (some (.int (b2i q.1))) [OB cy h0 hs ta q.2.1, OB cy k0 ks tb q.2.2] := by
  refine cm_of (lv0 := [(0, .ref h0), (1, .ref k0), (2, .int p2), (3, .int p3)]) (by decide) (Nat.le_of_ble_eq_true rfl) rfl ?_
  intro p e s m args below meth c A X hr hn
  have X : gK p s m args meth c A D cy ad cL_weighs 18 RL := X
  unfold f_L_weighs at hf
  refine g_iload_n X dL_weighs_0 2 rfl rfl ?_
  refine g_iload_n X dL_weighs_1 3 rfl rfl ?_
  refine g_ior X dL_weighs_2 ?_
  refine g_if_eq X 19 dL_weighs_3 (by decide) (fun c1216 => ?_) (fun c1216 => ?_)
  · have hf := opos c1216 hf
    refine g_widen (k := 2) (n := 12) (Nat.le_of_ble_eq_true rfl) (Nat.le_of_ble_eq_true rfl) ?_
    exact j_L_weighs_b19 X hr hfl v0 v1 p2 p3 hf
  · have hf := oneg c1216 hf
    refine g_aload_n X dL_weighs_6 0 rfl rfl ?_
    refine g_iconst X (2 : Int32) dL_weighs_7 (by decide) ?_
    refine g_iconst X (3 : Int32) dL_weighs_8 (by decide) ?_
    refine g_iconst X (0 : Int32) dL_weighs_9 (by decide) ?_
    refine g_iconst X (0 : Int32) dL_weighs_10 (by decide) ?_
    obtain ⟨q1173, hq1173, hf⟩ := obind hf
    refine g_callS (gs' := [OB cy h0 hs ta q1173.2, OB cy k0 ks tb v1]) (rest := []) X dL_weighs_11 (o_L_call l D cy ad h0 hs ta v0 (2 : Int32) (3 : Int32) (0 : Int32) (0 : Int32) hfl hq1173) mf_L_call ms_L_call lkm_L_144 ⟨(Nat.le_of_ble_eq_true rfl), (Nat.le_of_ble_eq_true rfl), (Nat.le_of_ble_eq_true rfl), (Nat.le_of_ble_eq_true rfl)⟩ [0, 1] _ (by decide : [0, 1].Perm (List.range 2)) rfl (by decide : [0, 1].Perm (List.range 2)) rfl (Nat.le_of_ble_eq_true rfl) rfl ?_
    refine g_cs (c' := 2) (s' := 12) rfl rfl ?_
    refine g_bipush X (20 : Int32) dL_weighs_14 (by decide) ?_
    refine g_icmp_ne X 55 dL_weighs_16 (by decide) (fun c1215 => ?_) (fun c1215 => ?_)
    · have hf := oneg c1215 hf
      refine g_aload_n X dL_weighs_55 0 rfl rfl ?_
      refine g_iconst X (2 : Int32) dL_weighs_56 (by decide) ?_
      refine g_iconst X (1 : Int32) dL_weighs_57 (by decide) ?_
      refine g_iconst X (0 : Int32) dL_weighs_58 (by decide) ?_
      refine g_iconst X (0 : Int32) dL_weighs_59 (by decide) ?_
      obtain ⟨q1174, hq1174, hf⟩ := obind hf
      refine g_callS (gs' := [OB cy h0 hs ta q1174.2, OB cy k0 ks tb v1]) (rest := []) X dL_weighs_60 (o_L_call l D cy ad h0 hs ta q1173.2 (2 : Int32) (1 : Int32) (0 : Int32) (0 : Int32) hfl hq1174) mf_L_call ms_L_call lkm_L_144 ⟨(Nat.le_of_ble_eq_true rfl), (Nat.le_of_ble_eq_true rfl), (Nat.le_of_ble_eq_true rfl), (Nat.le_of_ble_eq_true rfl)⟩ [0, 1] _ (by decide : [0, 1].Perm (List.range 2)) rfl (by decide : [0, 1].Perm (List.range 2)) rfl (Nat.le_of_ble_eq_true rfl) rfl ?_
      refine g_cs (c' := 4) (s' := 24) rfl rfl ?_
      refine g_istore (lv' := [(0, .ref h0), (1, .ref k0), (2, .int p2), (3, .int p3), (4, .int q1174.1)]) X dL_weighs_63 [1, 2, 3, 4, 0] (Nat.le_of_ble_eq_true rfl) rfl ?_
      refine g_aload_n X dL_weighs_65 0 rfl rfl ?_
      refine g_iconst X (2 : Int32) dL_weighs_66 (by decide) ?_
      refine g_iconst X (2 : Int32) dL_weighs_67 (by decide) ?_
      refine g_iconst X (0 : Int32) dL_weighs_68 (by decide) ?_
      refine g_iconst X (0 : Int32) dL_weighs_69 (by decide) ?_
      obtain ⟨q1175, hq1175, hf⟩ := obind hf
      refine g_callS (gs' := [OB cy h0 hs ta q1175.2, OB cy k0 ks tb v1]) (rest := []) X dL_weighs_70 (o_L_call l D cy ad h0 hs ta q1174.2 (2 : Int32) (2 : Int32) (0 : Int32) (0 : Int32) hfl hq1175) mf_L_call ms_L_call lkm_L_144 ⟨(Nat.le_of_ble_eq_true rfl), (Nat.le_of_ble_eq_true rfl), (Nat.le_of_ble_eq_true rfl), (Nat.le_of_ble_eq_true rfl)⟩ [0, 1] _ (by decide : [0, 1].Perm (List.range 2)) rfl (by decide : [0, 1].Perm (List.range 2)) rfl (Nat.le_of_ble_eq_true rfl) rfl ?_
      refine g_cs (c' := 6) (s' := 36) rfl rfl ?_
      refine g_istore (lv' := [(0, .ref h0), (1, .ref k0), (2, .int p2), (3, .int p3), (4, .int q1174.1), (5, .int q1175.1)]) X dL_weighs_73 [1, 2, 3, 4, 5, 0] (Nat.le_of_ble_eq_true rfl) rfl ?_
      refine g_aload_n X dL_weighs_75 0 rfl rfl ?_
      refine g_bipush X (12 : Int32) dL_weighs_76 (by decide) ?_
      refine g_iload_n X dL_weighs_78 2 rfl rfl ?_
      refine g_iload_n X dL_weighs_79 3 rfl rfl ?_
      refine g_iconst X (0 : Int32) dL_weighs_80 (by decide) ?_
      obtain ⟨q1176, hq1176, hf⟩ := obind hf
      refine g_callS (gs' := [OB cy h0 hs ta q1176.2, OB cy k0 ks tb v1]) (rest := []) X dL_weighs_81 (o_L_call l D cy ad h0 hs ta q1175.2 (12 : Int32) p2 p3 (0 : Int32) hfl hq1176) mf_L_call ms_L_call lkm_L_144 ⟨(Nat.le_of_ble_eq_true rfl), (Nat.le_of_ble_eq_true rfl), (Nat.le_of_ble_eq_true rfl), (Nat.le_of_ble_eq_true rfl)⟩ [0, 1] _ (by decide : [0, 1].Perm (List.range 2)) rfl (by decide : [0, 1].Perm (List.range 2)) rfl (Nat.le_of_ble_eq_true rfl) rfl ?_
      refine g_cs (c' := 8) (s' := 48) rfl rfl ?_
      refine g_istore (lv' := [(0, .ref h0), (1, .ref k0), (2, .int p2), (3, .int p3), (4, .int q1174.1), (5, .int q1175.1), (6, .int q1176.1)]) X dL_weighs_84 [1, 2, 3, 4, 5, 6, 0] (Nat.le_of_ble_eq_true rfl) rfl ?_
      refine g_aload_n X dL_weighs_86 0 rfl rfl ?_
      refine g_bipush X (12 : Int32) dL_weighs_87 (by decide) ?_
      refine g_iload_n X dL_weighs_89 2 rfl rfl ?_
      refine g_iload_n X dL_weighs_90 3 rfl rfl ?_
      refine g_iconst X (1 : Int32) dL_weighs_91 (by decide) ?_
      obtain ⟨q1177, hq1177, hf⟩ := obind hf
      refine g_callS (gs' := [OB cy h0 hs ta q1177.2, OB cy k0 ks tb v1]) (rest := []) X dL_weighs_92 (o_L_call l D cy ad h0 hs ta q1176.2 (12 : Int32) p2 p3 (1 : Int32) hfl hq1177) mf_L_call ms_L_call lkm_L_144 ⟨(Nat.le_of_ble_eq_true rfl), (Nat.le_of_ble_eq_true rfl), (Nat.le_of_ble_eq_true rfl), (Nat.le_of_ble_eq_true rfl)⟩ [0, 1] _ (by decide : [0, 1].Perm (List.range 2)) rfl (by decide : [0, 1].Perm (List.range 2)) rfl (Nat.le_of_ble_eq_true rfl) rfl ?_
      refine g_cs (c' := 10) (s' := 60) rfl rfl ?_
      refine g_istore (lv' := [(0, .ref h0), (1, .ref k0), (2, .int p2), (3, .int p3), (4, .int q1174.1), (5, .int q1175.1), (6, .int q1176.1), (7, .int q1177.1)]) X dL_weighs_95 [1, 2, 3, 4, 5, 6, 7, 0] (Nat.le_of_ble_eq_true rfl) rfl ?_
      refine g_aload_n X dL_weighs_97 0 rfl rfl ?_
      refine g_bipush X (12 : Int32) dL_weighs_98 (by decide) ?_
      refine g_iload_n X dL_weighs_100 2 rfl rfl ?_
      refine g_iload_n X dL_weighs_101 3 rfl rfl ?_
      refine g_iconst X (2 : Int32) dL_weighs_102 (by decide) ?_
      obtain ⟨q1178, hq1178, hf⟩ := obind hf
      refine g_callS (gs' := [OB cy h0 hs ta q1178.2, OB cy k0 ks tb v1]) (rest := []) X dL_weighs_103 (o_L_call l D cy ad h0 hs ta q1177.2 (12 : Int32) p2 p3 (2 : Int32) hfl hq1178) mf_L_call ms_L_call lkm_L_144 ⟨(Nat.le_of_ble_eq_true rfl), (Nat.le_of_ble_eq_true rfl), (Nat.le_of_ble_eq_true rfl), (Nat.le_of_ble_eq_true rfl)⟩ [0, 1] _ (by decide : [0, 1].Perm (List.range 2)) rfl (by decide : [0, 1].Perm (List.range 2)) rfl (Nat.le_of_ble_eq_true rfl) rfl ?_
      refine g_cs (c' := 12) (s' := 72) rfl rfl ?_
      refine g_istore (lv' := [(0, .ref h0), (1, .ref k0), (2, .int p2), (3, .int p3), (4, .int q1174.1), (5, .int q1175.1), (6, .int q1176.1), (7, .int q1177.1), (8, .int q1178.1)]) X dL_weighs_106 [1, 2, 3, 4, 5, 6, 7, 8, 0] (Nat.le_of_ble_eq_true rfl) rfl ?_
      refine g_lconst X (0 : Int64) dL_weighs_108 (by decide) ?_
      refine g_lstore (lv' := [(0, .ref h0), (1, .ref k0), (2, .int p2), (3, .int p3), (4, .int q1174.1), (5, .int q1175.1), (6, .int q1176.1), (7, .int q1177.1), (8, .int q1178.1), (9, .long (0 : Int64))]) X dL_weighs_109 [1, 2, 3, 4, 5, 6, 7, 8, 9, 0] (Nat.le_of_ble_eq_true rfl) rfl ?_
      refine g_lconst X (0 : Int64) dL_weighs_111 (by decide) ?_
      refine g_lstore (lv' := [(0, .ref h0), (1, .ref k0), (2, .int p2), (3, .int p3), (4, .int q1174.1), (5, .int q1175.1), (6, .int q1176.1), (7, .int q1177.1), (8, .int q1178.1), (9, .long (0 : Int64)), (11, .long (0 : Int64))]) X dL_weighs_112 [1, 2, 3, 4, 5, 6, 7, 8, 9, 10, 0] (Nat.le_of_ble_eq_true rfl) rfl ?_
      refine g_iconst X (0 : Int32) dL_weighs_114 (by decide) ?_
      refine g_istore (lv' := [(0, .ref h0), (1, .ref k0), (2, .int p2), (3, .int p3), (4, .int q1174.1), (5, .int q1175.1), (6, .int q1176.1), (7, .int q1177.1), (8, .int q1178.1), (9, .long (0 : Int64)), (11, .long (0 : Int64)), (13, .int (0 : Int32))]) X dL_weighs_115 [1, 2, 3, 4, 5, 6, 7, 8, 9, 10, 11, 0] (Nat.le_of_ble_eq_true rfl) rfl ?_
      obtain ⟨q1185, hq1185, hf⟩ := obind hf
      refine w_L_weighs_B117 X hr hfl v1 p2 p3 q1174.1 q1175.1 q1176.1 q1177.1 q1178.1 (n := 76) (cb := 12) (sb := 72) hq1185 (Nat.le_of_ble_eq_true rfl) (Nat.le_of_ble_eq_true rfl) ?_
      refine g_cs (c' := 316) (s' := 1896) rfl rfl ?_
      refine g_aload_n X dL_weighs_191 0 rfl rfl ?_
      refine g_bipush X (8 : Int32) dL_weighs_192 (by decide) ?_
      refine g_iload_n X dL_weighs_194 2 rfl rfl ?_
      refine g_iload_n X dL_weighs_195 3 rfl rfl ?_
      refine g_iconst X (0 : Int32) dL_weighs_196 (by decide) ?_
      obtain ⟨q1186, hq1186, hf⟩ := obind hf
      refine g_callS (gs' := [OB cy h0 hs ta q1186.2, OB cy k0 ks tb v1]) (rest := []) X dL_weighs_197 (o_L_call l D cy ad h0 hs ta q1185.2.2 (8 : Int32) p2 p3 (0 : Int32) hfl hq1186) mf_L_call ms_L_call lkm_L_144 ⟨(Nat.le_of_ble_eq_true rfl), (Nat.le_of_ble_eq_true rfl), (Nat.le_of_ble_eq_true rfl), (Nat.le_of_ble_eq_true rfl)⟩ [0, 1] _ (by decide : [0, 1].Perm (List.range 2)) rfl (by decide : [0, 1].Perm (List.range 2)) rfl (Nat.le_of_ble_eq_true rfl) rfl ?_
      refine g_cs (c' := 318) (s' := 1908) rfl rfl ?_
      refine g_istore (lv' := [(0, .ref h0), (1, .ref k0), (2, .int p2), (3, .int p3), (4, .int q1174.1), (5, .int q1175.1), (6, .int q1176.1), (7, .int q1177.1), (8, .int q1178.1), (9, .long q1185.1), (11, .long q1185.2.1), (13, .int q1186.1)]) X dL_weighs_200 [1, 2, 3, 4, 5, 6, 7, 8, 9, 10, 11, 0] (Nat.le_of_ble_eq_true rfl) rfl ?_
      refine g_iload X dL_weighs_202 11 rfl ?_
      refine g_if_lt X 299 dL_weighs_204 (by decide) (fun c1214 => ?_) (fun c1214 => ?_)
      · have hf := opos c1214 hf
        refine g_widen (k := 326) (n := 1956) (Nat.le_of_ble_eq_true rfl) (Nat.le_of_ble_eq_true rfl) ?_
        refine g_sub [0, 1, 4, 5, 9, 10] (lv' := [(0, .ref h0), (1, .ref k0), (4, .int q1174.1), (5, .int q1175.1), (9, .long q1185.1), (11, .long q1185.2.1)]) rfl ?_
        exact j_L_weighs_b299 X hr hfl q1186.2 v1 q1174.1 q1175.1 q1185.1 q1185.2.1 hf
      · have hf := oneg c1214 hf
        refine g_iload X dL_weighs_207 11 rfl ?_
        refine g_iconst X (3 : Int32) dL_weighs_209 (by decide) ?_
        refine g_icmp_ge X 299 dL_weighs_210 (by decide) (fun c1213 => ?_) (fun c1213 => ?_)
        · have hf := opos c1213 hf
          refine g_widen (k := 326) (n := 1956) (Nat.le_of_ble_eq_true rfl) (Nat.le_of_ble_eq_true rfl) ?_
          refine g_sub [0, 1, 4, 5, 9, 10] (lv' := [(0, .ref h0), (1, .ref k0), (4, .int q1174.1), (5, .int q1175.1), (9, .long q1185.1), (11, .long q1185.2.1)]) rfl ?_
          exact j_L_weighs_b299 X hr hfl q1186.2 v1 q1174.1 q1175.1 q1185.1 q1185.2.1 hf
        · have hf := oneg c1213 hf
          refine g_aload_n X dL_weighs_213 1 rfl rfl ?_
          refine g_bipush X (8 : Int32) dL_weighs_214 (by decide) ?_
          refine g_iload_n X dL_weighs_216 2 rfl rfl ?_
          refine g_iload_n X dL_weighs_217 3 rfl rfl ?_
          refine g_iconst X (0 : Int32) dL_weighs_218 (by decide) ?_
          obtain ⟨q1203, hq1203, hf⟩ := obind hf
          refine g_callS (gs' := [OB cy h0 hs ta q1186.2, OB cy k0 ks tb q1203.2]) (rest := []) X dL_weighs_219 (o_L_call l D cy ad k0 ks tb v1 (8 : Int32) p2 p3 (0 : Int32) hfl hq1203) mf_L_call ms_L_call lkm_L_144 ⟨(Nat.le_of_ble_eq_true rfl), (Nat.le_of_ble_eq_true rfl), (Nat.le_of_ble_eq_true rfl), (Nat.le_of_ble_eq_true rfl)⟩ [1, 0] _ (by decide : [1, 0].Perm (List.range 2)) rfl (by decide : [1, 0].Perm (List.range 2)) rfl (Nat.le_of_ble_eq_true rfl) rfl ?_
          refine g_cs (c' := 320) (s' := 1920) rfl rfl ?_
          refine g_iload X dL_weighs_222 11 rfl ?_
          refine g_icmp_ne X 299 dL_weighs_224 (by decide) (fun c1212 => ?_) (fun c1212 => ?_)
          · have hf := oneg c1212 hf
            refine g_widen (k := 326) (n := 1956) (Nat.le_of_ble_eq_true rfl) (Nat.le_of_ble_eq_true rfl) ?_
            refine g_sub [0, 1, 4, 5, 9, 10] (lv' := [(0, .ref h0), (1, .ref k0), (4, .int q1174.1), (5, .int q1175.1), (9, .long q1185.1), (11, .long q1185.2.1)]) rfl ?_
            exact j_L_weighs_b299 X hr hfl q1186.2 q1203.2 q1174.1 q1175.1 q1185.1 q1185.2.1 hf
          · have hf := opos c1212 hf
            refine g_iload X dL_weighs_227 6 rfl ?_
            refine g_iload X dL_weighs_229 7 rfl ?_
            refine g_iadd X dL_weighs_231 ?_
            refine g_iload X dL_weighs_232 8 rfl ?_
            refine g_iadd X dL_weighs_234 ?_
            refine g_iload X dL_weighs_235 5 rfl ?_
            refine g_icmp_ne X 299 dL_weighs_237 (by decide) (fun c1211 => ?_) (fun c1211 => ?_)
            · have hf := oneg c1211 hf
              refine g_widen (k := 326) (n := 1956) (Nat.le_of_ble_eq_true rfl) (Nat.le_of_ble_eq_true rfl) ?_
              refine g_sub [0, 1, 4, 5, 9, 10] (lv' := [(0, .ref h0), (1, .ref k0), (4, .int q1174.1), (5, .int q1175.1), (9, .long q1185.1), (11, .long q1185.2.1)]) rfl ?_
              exact j_L_weighs_b299 X hr hfl q1186.2 q1203.2 q1174.1 q1175.1 q1185.1 q1185.2.1 hf
            · have hf := opos c1211 hf
              refine g_aload_n X dL_weighs_240 0 rfl rfl ?_
              refine g_iconst X (2 : Int32) dL_weighs_241 (by decide) ?_
              refine g_iconst X (2 : Int32) dL_weighs_242 (by decide) ?_
              refine g_iconst X (0 : Int32) dL_weighs_243 (by decide) ?_
              refine g_iconst X (0 : Int32) dL_weighs_244 (by decide) ?_
              obtain ⟨q1204, hq1204, hf⟩ := obind hf
              refine g_callS (gs' := [OB cy h0 hs ta q1204.2, OB cy k0 ks tb q1203.2]) (rest := []) X dL_weighs_245 (o_L_call l D cy ad h0 hs ta q1186.2 (2 : Int32) (2 : Int32) (0 : Int32) (0 : Int32) hfl hq1204) mf_L_call ms_L_call lkm_L_144 ⟨(Nat.le_of_ble_eq_true rfl), (Nat.le_of_ble_eq_true rfl), (Nat.le_of_ble_eq_true rfl), (Nat.le_of_ble_eq_true rfl)⟩ [0, 1] _ (by decide : [0, 1].Perm (List.range 2)) rfl (by decide : [0, 1].Perm (List.range 2)) rfl (Nat.le_of_ble_eq_true rfl) rfl ?_
              refine g_cs (c' := 322) (s' := 1932) rfl rfl ?_
              refine g_iload X dL_weighs_248 11 rfl ?_
              refine g_if_ne X 258 dL_weighs_250 (by decide) (fun c1210 => ?_) (fun c1210 => ?_)
              · have hf := oneg c1210 hf
                refine g_iload X dL_weighs_258 11 rfl ?_
                refine g_iconst X (1 : Int32) dL_weighs_260 (by decide) ?_
                refine g_icmp_ne X 269 dL_weighs_261 (by decide) (fun c1209 => ?_) (fun c1209 => ?_)
                · have hf := oneg c1209 hf
                  refine g_iload X dL_weighs_269 8 rfl ?_
                  refine g_sub [0, 1, 2, 3, 4, 5, 9, 10, 11] (lv' := [(0, .ref h0), (1, .ref k0), (2, .int p2), (3, .int p3), (4, .int q1174.1), (5, .int q1175.1), (9, .long q1185.1), (11, .long q1185.2.1), (13, .int q1186.1)]) rfl ?_
                  exact j_L_weighs_b271 X hr hfl q1204.2 q1203.2 p2 p3 q1174.1 q1175.1 q1185.1 q1185.2.1 q1186.1 q1178.1 q1204.1 hf
                · have hf := opos c1209 hf
                  refine g_iload X dL_weighs_264 7 rfl ?_
                  refine g_goto X 271 dL_weighs_266 (by decide) ?_
                  refine g_sub [0, 1, 2, 3, 4, 5, 9, 10, 11] (lv' := [(0, .ref h0), (1, .ref k0), (2, .int p2), (3, .int p3), (4, .int q1174.1), (5, .int q1175.1), (9, .long q1185.1), (11, .long q1185.2.1), (13, .int q1186.1)]) rfl ?_
                  exact j_L_weighs_b271 X hr hfl q1204.2 q1203.2 p2 p3 q1174.1 q1175.1 q1185.1 q1185.2.1 q1186.1 q1177.1 q1204.1 hf
              · have hf := opos c1210 hf
                refine g_iload X dL_weighs_253 6 rfl ?_
                refine g_goto X 271 dL_weighs_255 (by decide) ?_
                refine g_sub [0, 1, 2, 3, 4, 5, 9, 10, 11] (lv' := [(0, .ref h0), (1, .ref k0), (2, .int p2), (3, .int p3), (4, .int q1174.1), (5, .int q1175.1), (9, .long q1185.1), (11, .long q1185.2.1), (13, .int q1186.1)]) rfl ?_
                exact j_L_weighs_b271 X hr hfl q1204.2 q1203.2 p2 p3 q1174.1 q1175.1 q1185.1 q1185.2.1 q1186.1 q1176.1 q1204.1 hf
    · have hf := opos c1215 hf
      exact j_L_weighs_b19 X hr hfl q1173.2 v1 p2 p3 hf
abbrev rmL_arms : Room := ({ frames := 11, cells := 40, slots := 240, locals := 210 } : Room)
def f_L_arms_b257 (v0 : OBv) (v1 : OBv) (x6 : Int32) (y0 : Bool) : Option (Bool × OBv × OBv) :=
  if (b2i y0) = 0 then some (false, v0, v1) else (f_O_call v0 (11 : Int32) (0 : Int32) (0 : Int32) (0 : Int32)).bind (fun q1244 => (f_L_thrown q1244.1).bind (fun q1245 => if (b2i q1245) = 0 then (f_O_call v1 (11 : Int32) (0 : Int32) (0 : Int32) (0 : Int32)).bind (fun q1246 => (f_L_thrown q1246.1).bind (fun q1247 => if (b2i q1247) = 0 then (f_O_call q1244.2 (11 : Int32) (0 : Int32) (0 : Int32) (0 : Int32)).bind (fun q1248 => (f_L_thrown q1248.1).bind (fun q1249 => if (b2i q1249) = 0 then (f_O_call q1246.2 (11 : Int32) (0 : Int32) (0 : Int32) (0 : Int32)).bind (fun q1250 => (f_L_thrown q1250.1).bind (fun q1251 => if (b2i q1251) = 0 then (f_O_call q1248.2 (2 : Int32) (4 : Int32) (0 : Int32) (0 : Int32)).bind (fun q1252 => if q1252.1 = x6 then some (true, q1252.2, q1250.2) else some (false, q1252.2, q1250.2)) else some (false, q1248.2, q1250.2))) else some (false, q1248.2, q1246.2))) else some (false, q1244.2, q1246.2))) else some (false, q1244.2, v1)))
set_option maxRecDepth 100000 in
set_option maxHeartbeats 4000000 in
theorem j_L_arms_b257 {p : Program} {l : Launch} {e : Env} {s : State} {m : MethodId} {args : Array Value} {below : List Frame} {meth : Method} {c : Code} {A : Nat → Prop} {D : va_G} {cy : Nat → ClassId} {ad : (Nat → Nat) × (Nat → Nat)} (X : gK p s m args meth c A D cy ad cL_arms 11 RL) (hr : meth.sig.returnType = (some .boolean)) (hfl : l.stackTraces = false) {h0 k0 : Nat} {hs ks : Nat → Nat} {ta tb : TAd} (v0 : OBv) (v1 : OBv) (x6 : Int32) (y0 : Bool) {q : Bool × OBv × OBv} (hf : f_L_arms_b257 v0 v1 x6 y0 = some q) : GW p l e rmL_arms s m args below meth c A D 11 30 180 (MQ below (cmQ D cy A (some (.int (b2i q.1))) ([OB cy h0 hs ta q.2.1, OB cy k0 ks tb q.2.2] : List va_W).flatten) args s 40 240 A) 257 [(0, .ref h0), (1, .ref k0), (6, .int x6)] [.int (b2i y0)] [OB cy h0 hs ta v0, OB cy k0 ks tb v1] := by
  unfold f_L_arms_b257 at hf
  refine g_istore (lv' := [(0, .ref h0), (1, .ref k0), (6, .int x6), (8, .int (b2i y0))]) X dL_arms_257 [1, 2, 3, 0] (Nat.le_of_ble_eq_true rfl) rfl ?_
  refine g_iload X dL_arms_259 3 rfl ?_
  refine g_if_eq X 341 dL_arms_261 (by decide) (fun c1258 => ?_) (fun c1258 => ?_)
  · have hf := opos c1258 hf
    refine g_widen (k := 40) (n := 240) (Nat.le_of_ble_eq_true rfl) (Nat.le_of_ble_eq_true rfl) ?_
    refine g_iconst X (0 : Int32) dL_arms_341 (by decide) ?_
    have hf := Option.some.inj hf
    subst hf
    exact g_zret (b := false) X hr dL_arms_342
  · have hf := oneg c1258 hf
    refine g_aload_n X dL_arms_264 0 rfl rfl ?_
    refine g_bipush X (11 : Int32) dL_arms_265 (by decide) ?_
    refine g_iconst X (0 : Int32) dL_arms_267 (by decide) ?_
    refine g_iconst X (0 : Int32) dL_arms_268 (by decide) ?_
    refine g_iconst X (0 : Int32) dL_arms_269 (by decide) ?_
    obtain ⟨q1244, hq1244, hf⟩ := obind hf
    refine g_callS (gs' := [OB cy h0 hs ta q1244.2, OB cy k0 ks tb v1]) (rest := []) X dL_arms_270 (o_L_call l D cy ad h0 hs ta v0 (11 : Int32) (0 : Int32) (0 : Int32) (0 : Int32) hfl hq1244) mf_L_call ms_L_call lkm_L_144 ⟨(Nat.le_of_ble_eq_true rfl), (Nat.le_of_ble_eq_true rfl), (Nat.le_of_ble_eq_true rfl), (Nat.le_of_ble_eq_true rfl)⟩ [0, 1] _ (by decide : [0, 1].Perm (List.range 2)) rfl (by decide : [0, 1].Perm (List.range 2)) rfl (Nat.le_of_ble_eq_true rfl) rfl ?_
    refine g_cs (c' := 32) (s' := 192) rfl rfl ?_
    obtain ⟨q1245, hq1245, hf⟩ := obind hf
    refine g_callS (gs' := [OB cy h0 hs ta q1244.2, OB cy k0 ks tb v1]) (rest := []) X dL_arms_273 (c_L_thrown l D cy ad q1244.1 hq1245) mf_L_thrown ms_L_thrown lkm_L_201 ⟨(Nat.le_of_ble_eq_true rfl), (Nat.le_of_ble_eq_true rfl), (Nat.le_of_ble_eq_true rfl), (Nat.le_of_ble_eq_true rfl)⟩ [0, 1] _ (by decide : [0, 1].Perm (List.range 2)) rfl (by decide : [0, 1].Perm (List.range 2)) rfl (Nat.le_of_ble_eq_true rfl) rfl ?_
    refine g_if_ne X 341 dL_arms_276 (by decide) (fun c1257 => ?_) (fun c1257 => ?_)
    · have hf := oneg c1257 hf
      refine g_widen (k := 40) (n := 240) (Nat.le_of_ble_eq_true rfl) (Nat.le_of_ble_eq_true rfl) ?_
      refine g_iconst X (0 : Int32) dL_arms_341 (by decide) ?_
      have hf := Option.some.inj hf
      subst hf
      exact g_zret (b := false) X hr dL_arms_342
    · have hf := opos c1257 hf
      refine g_aload_n X dL_arms_279 1 rfl rfl ?_
      refine g_bipush X (11 : Int32) dL_arms_280 (by decide) ?_
      refine g_iconst X (0 : Int32) dL_arms_282 (by decide) ?_
      refine g_iconst X (0 : Int32) dL_arms_283 (by decide) ?_
      refine g_iconst X (0 : Int32) dL_arms_284 (by decide) ?_
      obtain ⟨q1246, hq1246, hf⟩ := obind hf
      refine g_callS (gs' := [OB cy h0 hs ta q1244.2, OB cy k0 ks tb q1246.2]) (rest := []) X dL_arms_285 (o_L_call l D cy ad k0 ks tb v1 (11 : Int32) (0 : Int32) (0 : Int32) (0 : Int32) hfl hq1246) mf_L_call ms_L_call lkm_L_144 ⟨(Nat.le_of_ble_eq_true rfl), (Nat.le_of_ble_eq_true rfl), (Nat.le_of_ble_eq_true rfl), (Nat.le_of_ble_eq_true rfl)⟩ [1, 0] _ (by decide : [1, 0].Perm (List.range 2)) rfl (by decide : [1, 0].Perm (List.range 2)) rfl (Nat.le_of_ble_eq_true rfl) rfl ?_
      refine g_cs (c' := 34) (s' := 204) rfl rfl ?_
      obtain ⟨q1247, hq1247, hf⟩ := obind hf
      refine g_callS (gs' := [OB cy h0 hs ta q1244.2, OB cy k0 ks tb q1246.2]) (rest := []) X dL_arms_288 (c_L_thrown l D cy ad q1246.1 hq1247) mf_L_thrown ms_L_thrown lkm_L_201 ⟨(Nat.le_of_ble_eq_true rfl), (Nat.le_of_ble_eq_true rfl), (Nat.le_of_ble_eq_true rfl), (Nat.le_of_ble_eq_true rfl)⟩ [0, 1] _ (by decide : [0, 1].Perm (List.range 2)) rfl (by decide : [0, 1].Perm (List.range 2)) rfl (Nat.le_of_ble_eq_true rfl) rfl ?_
      refine g_if_ne X 341 dL_arms_291 (by decide) (fun c1256 => ?_) (fun c1256 => ?_)
      · have hf := oneg c1256 hf
        refine g_widen (k := 40) (n := 240) (Nat.le_of_ble_eq_true rfl) (Nat.le_of_ble_eq_true rfl) ?_
        refine g_iconst X (0 : Int32) dL_arms_341 (by decide) ?_
        have hf := Option.some.inj hf
        subst hf
        exact g_zret (b := false) X hr dL_arms_342
      · have hf := opos c1256 hf
        refine g_aload_n X dL_arms_294 0 rfl rfl ?_
        refine g_bipush X (11 : Int32) dL_arms_295 (by decide) ?_
        refine g_iconst X (0 : Int32) dL_arms_297 (by decide) ?_
        refine g_iconst X (0 : Int32) dL_arms_298 (by decide) ?_
        refine g_iconst X (0 : Int32) dL_arms_299 (by decide) ?_
        obtain ⟨q1248, hq1248, hf⟩ := obind hf
        refine g_callS (gs' := [OB cy h0 hs ta q1248.2, OB cy k0 ks tb q1246.2]) (rest := []) X dL_arms_300 (o_L_call l D cy ad h0 hs ta q1244.2 (11 : Int32) (0 : Int32) (0 : Int32) (0 : Int32) hfl hq1248) mf_L_call ms_L_call lkm_L_144 ⟨(Nat.le_of_ble_eq_true rfl), (Nat.le_of_ble_eq_true rfl), (Nat.le_of_ble_eq_true rfl), (Nat.le_of_ble_eq_true rfl)⟩ [0, 1] _ (by decide : [0, 1].Perm (List.range 2)) rfl (by decide : [0, 1].Perm (List.range 2)) rfl (Nat.le_of_ble_eq_true rfl) rfl ?_
        refine g_cs (c' := 36) (s' := 216) rfl rfl ?_
        obtain ⟨q1249, hq1249, hf⟩ := obind hf
        refine g_callS (gs' := [OB cy h0 hs ta q1248.2, OB cy k0 ks tb q1246.2]) (rest := []) X dL_arms_303 (c_L_thrown l D cy ad q1248.1 hq1249) mf_L_thrown ms_L_thrown lkm_L_201 ⟨(Nat.le_of_ble_eq_true rfl), (Nat.le_of_ble_eq_true rfl), (Nat.le_of_ble_eq_true rfl), (Nat.le_of_ble_eq_true rfl)⟩ [0, 1] _ (by decide : [0, 1].Perm (List.range 2)) rfl (by decide : [0, 1].Perm (List.range 2)) rfl (Nat.le_of_ble_eq_true rfl) rfl ?_
        refine g_if_ne X 341 dL_arms_306 (by decide) (fun c1255 => ?_) (fun c1255 => ?_)
        · have hf := oneg c1255 hf
          refine g_widen (k := 40) (n := 240) (Nat.le_of_ble_eq_true rfl) (Nat.le_of_ble_eq_true rfl) ?_
          refine g_iconst X (0 : Int32) dL_arms_341 (by decide) ?_
          have hf := Option.some.inj hf
          subst hf
          exact g_zret (b := false) X hr dL_arms_342
        · have hf := opos c1255 hf
          refine g_aload_n X dL_arms_309 1 rfl rfl ?_
          refine g_bipush X (11 : Int32) dL_arms_310 (by decide) ?_
          refine g_iconst X (0 : Int32) dL_arms_312 (by decide) ?_
          refine g_iconst X (0 : Int32) dL_arms_313 (by decide) ?_
          refine g_iconst X (0 : Int32) dL_arms_314 (by decide) ?_
          obtain ⟨q1250, hq1250, hf⟩ := obind hf
          refine g_callS (gs' := [OB cy h0 hs ta q1248.2, OB cy k0 ks tb q1250.2]) (rest := []) X dL_arms_315 (o_L_call l D cy ad k0 ks tb q1246.2 (11 : Int32) (0 : Int32) (0 : Int32) (0 : Int32) hfl hq1250) mf_L_call ms_L_call lkm_L_144 ⟨(Nat.le_of_ble_eq_true rfl), (Nat.le_of_ble_eq_true rfl), (Nat.le_of_ble_eq_true rfl), (Nat.le_of_ble_eq_true rfl)⟩ [1, 0] _ (by decide : [1, 0].Perm (List.range 2)) rfl (by decide : [1, 0].Perm (List.range 2)) rfl (Nat.le_of_ble_eq_true rfl) rfl ?_
          refine g_cs (c' := 38) (s' := 228) rfl rfl ?_
          obtain ⟨q1251, hq1251, hf⟩ := obind hf
          refine g_callS (gs' := [OB cy h0 hs ta q1248.2, OB cy k0 ks tb q1250.2]) (rest := []) X dL_arms_318 (c_L_thrown l D cy ad q1250.1 hq1251) mf_L_thrown ms_L_thrown lkm_L_201 ⟨(Nat.le_of_ble_eq_true rfl), (Nat.le_of_ble_eq_true rfl), (Nat.le_of_ble_eq_true rfl), (Nat.le_of_ble_eq_true rfl)⟩ [0, 1] _ (by decide : [0, 1].Perm (List.range 2)) rfl (by decide : [0, 1].Perm (List.range 2)) rfl (Nat.le_of_ble_eq_true rfl) rfl ?_
          refine g_if_ne X 341 dL_arms_321 (by decide) (fun c1254 => ?_) (fun c1254 => ?_)
          · have hf := oneg c1254 hf
            refine g_widen (k := 40) (n := 240) (Nat.le_of_ble_eq_true rfl) (Nat.le_of_ble_eq_true rfl) ?_
            refine g_iconst X (0 : Int32) dL_arms_341 (by decide) ?_
            have hf := Option.some.inj hf
            subst hf
            exact g_zret (b := false) X hr dL_arms_342
          · have hf := opos c1254 hf
            refine g_aload_n X dL_arms_324 0 rfl rfl ?_
            refine g_iconst X (2 : Int32) dL_arms_325 (by decide) ?_
            refine g_iconst X (4 : Int32) dL_arms_326 (by decide) ?_
            refine g_iconst X (0 : Int32) dL_arms_327 (by decide) ?_
            refine g_iconst X (0 : Int32) dL_arms_328 (by decide) ?_
            obtain ⟨q1252, hq1252, hf⟩ := obind hf
            refine g_callS (gs' := [OB cy h0 hs ta q1252.2, OB cy k0 ks tb q1250.2]) (rest := []) X dL_arms_329 (o_L_call l D cy ad h0 hs ta q1248.2 (2 : Int32) (4 : Int32) (0 : Int32) (0 : Int32) hfl hq1252) mf_L_call ms_L_call lkm_L_144 ⟨(Nat.le_of_ble_eq_true rfl), (Nat.le_of_ble_eq_true rfl), (Nat.le_of_ble_eq_true rfl), (Nat.le_of_ble_eq_true rfl)⟩ [0, 1] _ (by decide : [0, 1].Perm (List.range 2)) rfl (by decide : [0, 1].Perm (List.range 2)) rfl (Nat.le_of_ble_eq_true rfl) rfl ?_
            refine g_cs (c' := 40) (s' := 240) rfl rfl ?_
            refine g_iload X dL_arms_332 2 rfl ?_
            refine g_icmp_ne X 341 dL_arms_334 (by decide) (fun c1253 => ?_) (fun c1253 => ?_)
            · have hf := oneg c1253 hf
              refine g_iconst X (0 : Int32) dL_arms_341 (by decide) ?_
              have hf := Option.some.inj hf
              subst hf
              exact g_zret (b := false) X hr dL_arms_342
            · have hf := opos c1253 hf
              refine g_iconst X (1 : Int32) dL_arms_337 (by decide) ?_
              refine g_goto X 342 dL_arms_338 (by decide) ?_
              have hf := Option.some.inj hf
              subst hf
              exact g_zret (b := true) X hr dL_arms_342
def f_L_arms_b256 (v0 : OBv) (v1 : OBv) (x6 : Int32) : Option (Bool × OBv × OBv) :=
  f_L_arms_b257 v0 v1 x6 false
set_option maxRecDepth 100000 in
set_option maxHeartbeats 4000000 in
theorem j_L_arms_b256 {p : Program} {l : Launch} {e : Env} {s : State} {m : MethodId} {args : Array Value} {below : List Frame} {meth : Method} {c : Code} {A : Nat → Prop} {D : va_G} {cy : Nat → ClassId} {ad : (Nat → Nat) × (Nat → Nat)} (X : gK p s m args meth c A D cy ad cL_arms 11 RL) (hr : meth.sig.returnType = (some .boolean)) (hfl : l.stackTraces = false) {h0 k0 : Nat} {hs ks : Nat → Nat} {ta tb : TAd} (v0 : OBv) (v1 : OBv) (x6 : Int32) {q : Bool × OBv × OBv} (hf : f_L_arms_b256 v0 v1 x6 = some q) : GW p l e rmL_arms s m args below meth c A D 11 30 180 (MQ below (cmQ D cy A (some (.int (b2i q.1))) ([OB cy h0 hs ta q.2.1, OB cy k0 ks tb q.2.2] : List va_W).flatten) args s 40 240 A) 256 [(0, .ref h0), (1, .ref k0), (6, .int x6)] [] [OB cy h0 hs ta v0, OB cy k0 ks tb v1] := by
  unfold f_L_arms_b256 at hf
  refine g_iconst X (0 : Int32) dL_arms_256 (by decide) ?_
  exact j_L_arms_b257 X hr hfl v0 v1 x6 false hf
def f_L_arms_b238 (v0 : OBv) (v1 : OBv) (x2 : Int32) (x3 : Int32) (x5 : Int32) (x6 : Int32) : Option (Bool × OBv × OBv) :=
  (f_O_call v0 (14 : Int32) x2 x3 (0 : Int32)).bind (fun q1259 => if q1259.1 = x5 then f_L_arms_b257 q1259.2 v1 x6 true else f_L_arms_b256 q1259.2 v1 x6)
set_option maxRecDepth 100000 in
set_option maxHeartbeats 4000000 in
theorem j_L_arms_b238 {p : Program} {l : Launch} {e : Env} {s : State} {m : MethodId} {args : Array Value} {below : List Frame} {meth : Method} {c : Code} {A : Nat → Prop} {D : va_G} {cy : Nat → ClassId} {ad : (Nat → Nat) × (Nat → Nat)} (X : gK p s m args meth c A D cy ad cL_arms 11 RL) (hr : meth.sig.returnType = (some .boolean)) (hfl : l.stackTraces = false) {h0 k0 : Nat} {hs ks : Nat → Nat} {ta tb : TAd} (v0 : OBv) (v1 : OBv) (x2 : Int32) (x3 : Int32) (x5 : Int32) (x6 : Int32) {q : Bool × OBv × OBv} (hf : f_L_arms_b238 v0 v1 x2 x3 x5 x6 = some q) : GW p l e rmL_arms s m args below meth c A D 11 28 168 (MQ below (cmQ D cy A (some (.int (b2i q.1))) ([OB cy h0 hs ta q.2.1, OB cy k0 ks tb q.2.2] : List va_W).flatten) args s 40 240 A) 238 [(0, .ref h0), (1, .ref k0), (2, .int x2), (3, .int x3), (5, .int x5), (6, .int x6)] [] [OB cy h0 hs ta v0, OB cy k0 ks tb v1] := by
  unfold f_L_arms_b238 at hf
  refine g_aload_n X dL_arms_238 0 rfl rfl ?_
  refine g_bipush X (14 : Int32) dL_arms_239 (by decide) ?_
  refine g_iload_n X dL_arms_241 2 rfl rfl ?_
  refine g_iload_n X dL_arms_242 3 rfl rfl ?_
  refine g_iconst X (0 : Int32) dL_arms_243 (by decide) ?_
  obtain ⟨q1259, hq1259, hf⟩ := obind hf
  refine g_callS (gs' := [OB cy h0 hs ta q1259.2, OB cy k0 ks tb v1]) (rest := []) X dL_arms_244 (o_L_call l D cy ad h0 hs ta v0 (14 : Int32) x2 x3 (0 : Int32) hfl hq1259) mf_L_call ms_L_call lkm_L_144 ⟨(Nat.le_of_ble_eq_true rfl), (Nat.le_of_ble_eq_true rfl), (Nat.le_of_ble_eq_true rfl), (Nat.le_of_ble_eq_true rfl)⟩ [0, 1] _ (by decide : [0, 1].Perm (List.range 2)) rfl (by decide : [0, 1].Perm (List.range 2)) rfl (Nat.le_of_ble_eq_true rfl) rfl ?_
  refine g_cs (c' := 30) (s' := 180) rfl rfl ?_
  refine g_iload X dL_arms_247 4 rfl ?_
  refine g_icmp_ne X 256 dL_arms_249 (by decide) (fun c1260 => ?_) (fun c1260 => ?_)
  · have hf := oneg c1260 hf
    refine g_sub [0, 1, 5] (lv' := [(0, .ref h0), (1, .ref k0), (6, .int x6)]) rfl ?_
    exact j_L_arms_b256 X hr hfl q1259.2 v1 x6 hf
  · have hf := opos c1260 hf
    refine g_iconst X (1 : Int32) dL_arms_252 (by decide) ?_
    refine g_goto X 257 dL_arms_253 (by decide) ?_
    refine g_sub [0, 1, 5] (lv' := [(0, .ref h0), (1, .ref k0), (6, .int x6)]) rfl ?_
    exact j_L_arms_b257 X hr hfl q1259.2 v1 x6 true hf
def f_L_arms_b202 (v0 : OBv) (v1 : OBv) (x2 : Int32) (x3 : Int32) (x5 : Int32) (x6 : Int32) (x7 : Int32) (x9 : Int32) (y0 : Bool) : Option (Bool × OBv × OBv) :=
  (f_L_most v0 x2 x3).bind (fun q1243 => if (b2i y0) = 0 then f_L_arms_b256 q1243.2 v1 x6 else if q1243.1 < x9 then f_L_arms_b256 q1243.2 v1 x6 else if x9 < q1243.1 then f_L_arms_b238 q1243.2 v1 x2 x3 x5 x6 else if x7 < x5 then f_L_arms_b256 q1243.2 v1 x6 else f_L_arms_b238 q1243.2 v1 x2 x3 x5 x6)
set_option maxRecDepth 100000 in
set_option maxHeartbeats 4000000 in
theorem j_L_arms_b202 {p : Program} {l : Launch} {e : Env} {s : State} {m : MethodId} {args : Array Value} {below : List Frame} {meth : Method} {c : Code} {A : Nat → Prop} {D : va_G} {cy : Nat → ClassId} {ad : (Nat → Nat) × (Nat → Nat)} (X : gK p s m args meth c A D cy ad cL_arms 11 RL) (hr : meth.sig.returnType = (some .boolean)) (hfl : l.stackTraces = false) {h0 k0 : Nat} {hs ks : Nat → Nat} {ta tb : TAd} (v0 : OBv) (v1 : OBv) (x2 : Int32) (x3 : Int32) (x5 : Int32) (x6 : Int32) (x7 : Int32) (x9 : Int32) (y0 : Bool) {q : Bool × OBv × OBv} (hf : f_L_arms_b202 v0 v1 x2 x3 x5 x6 x7 x9 y0 = some q) : GW p l e rmL_arms s m args below meth c A D 11 20 120 (MQ below (cmQ D cy A (some (.int (b2i q.1))) ([OB cy h0 hs ta q.2.1, OB cy k0 ks tb q.2.2] : List va_W).flatten) args s 40 240 A) 202 [(0, .ref h0), (1, .ref k0), (2, .int x2), (3, .int x3), (5, .int x5), (6, .int x6), (7, .int x7), (9, .int x9)] [.int (b2i y0)] [OB cy h0 hs ta v0, OB cy k0 ks tb v1] := by
  unfold f_L_arms_b202 at hf
  refine g_istore (lv' := [(0, .ref h0), (1, .ref k0), (2, .int x2), (3, .int x3), (5, .int x5), (6, .int x6), (7, .int x7), (8, .int (b2i y0)), (9, .int x9)]) X dL_arms_202 [1, 2, 3, 4, 5, 6, 7, 0, 8] (Nat.le_of_ble_eq_true rfl) rfl ?_
  refine g_aload_n X dL_arms_204 0 rfl rfl ?_
  refine g_iload_n X dL_arms_205 2 rfl rfl ?_
  refine g_iload_n X dL_arms_206 3 rfl rfl ?_
  obtain ⟨q1243, hq1243, hf⟩ := obind hf
  refine g_callS (gs' := [OB cy h0 hs ta q1243.2, OB cy k0 ks tb v1]) (rest := []) X dL_arms_207 (c_L_most l D cy ad h0 hs ta v0 x2 x3 hfl hq1243) mf_L_most ms_L_most lkm_L_171 ⟨(Nat.le_of_ble_eq_true rfl), (Nat.le_of_ble_eq_true rfl), (Nat.le_of_ble_eq_true rfl), (Nat.le_of_ble_eq_true rfl)⟩ [0, 1] _ (by decide : [0, 1].Perm (List.range 2)) rfl (by decide : [0, 1].Perm (List.range 2)) rfl (Nat.le_of_ble_eq_true rfl) rfl ?_
  refine g_cs (c' := 28) (s' := 168) rfl rfl ?_
  refine g_istore (lv' := [(0, .ref h0), (1, .ref k0), (2, .int x2), (3, .int x3), (5, .int x5), (6, .int x6), (7, .int x7), (8, .int (b2i y0)), (9, .int x9), (10, .int q1243.1)]) X dL_arms_210 [1, 2, 3, 4, 5, 6, 7, 8, 9, 0] (Nat.le_of_ble_eq_true rfl) rfl ?_
  refine g_iload X dL_arms_212 7 rfl ?_
  refine g_if_eq X 256 dL_arms_214 (by decide) (fun c1264 => ?_) (fun c1264 => ?_)
  · have hf := opos c1264 hf
    refine g_widen (k := 30) (n := 180) (Nat.le_of_ble_eq_true rfl) (Nat.le_of_ble_eq_true rfl) ?_
    refine g_sub [0, 1, 5] (lv' := [(0, .ref h0), (1, .ref k0), (6, .int x6)]) rfl ?_
    exact j_L_arms_b256 X hr hfl q1243.2 v1 x6 hf
  · have hf := oneg c1264 hf
    refine g_iload X dL_arms_217 9 rfl ?_
    refine g_iload X dL_arms_219 8 rfl ?_
    refine g_icmp_lt X 256 dL_arms_221 (by decide) (fun c1263 => ?_) (fun c1263 => ?_)
    · have hf := opos c1263 hf
      refine g_widen (k := 30) (n := 180) (Nat.le_of_ble_eq_true rfl) (Nat.le_of_ble_eq_true rfl) ?_
      refine g_sub [0, 1, 5] (lv' := [(0, .ref h0), (1, .ref k0), (6, .int x6)]) rfl ?_
      exact j_L_arms_b256 X hr hfl q1243.2 v1 x6 hf
    · have hf := oneg c1263 hf
      refine g_iload X dL_arms_224 9 rfl ?_
      refine g_iload X dL_arms_226 8 rfl ?_
      refine g_icmp_gt X 238 dL_arms_228 (by decide) (fun c1262 => ?_) (fun c1262 => ?_)
      · have hf := opos c1262 hf
        refine g_sub [0, 1, 2, 3, 4, 5] (lv' := [(0, .ref h0), (1, .ref k0), (2, .int x2), (3, .int x3), (5, .int x5), (6, .int x6)]) rfl ?_
        exact j_L_arms_b238 X hr hfl q1243.2 v1 x2 x3 x5 x6 hf
      · have hf := oneg c1262 hf
        refine g_iload X dL_arms_231 6 rfl ?_
        refine g_iload X dL_arms_233 4 rfl ?_
        refine g_icmp_lt X 256 dL_arms_235 (by decide) (fun c1261 => ?_) (fun c1261 => ?_)
        · have hf := opos c1261 hf
          refine g_widen (k := 30) (n := 180) (Nat.le_of_ble_eq_true rfl) (Nat.le_of_ble_eq_true rfl) ?_
          refine g_sub [0, 1, 5] (lv' := [(0, .ref h0), (1, .ref k0), (6, .int x6)]) rfl ?_
          exact j_L_arms_b256 X hr hfl q1243.2 v1 x6 hf
        · have hf := oneg c1261 hf
          refine g_sub [0, 1, 2, 3, 4, 5] (lv' := [(0, .ref h0), (1, .ref k0), (2, .int x2), (3, .int x3), (5, .int x5), (6, .int x6)]) rfl ?_
          exact j_L_arms_b238 X hr hfl q1243.2 v1 x2 x3 x5 x6 hf
def f_L_arms_b201 (v0 : OBv) (v1 : OBv) (x2 : Int32) (x3 : Int32) (x5 : Int32) (x6 : Int32) (x7 : Int32) (x9 : Int32) : Option (Bool × OBv × OBv) :=
  f_L_arms_b202 v0 v1 x2 x3 x5 x6 x7 x9 false
set_option maxRecDepth 100000 in
set_option maxHeartbeats 4000000 in
theorem j_L_arms_b201 {p : Program} {l : Launch} {e : Env} {s : State} {m : MethodId} {args : Array Value} {below : List Frame} {meth : Method} {c : Code} {A : Nat → Prop} {D : va_G} {cy : Nat → ClassId} {ad : (Nat → Nat) × (Nat → Nat)} (X : gK p s m args meth c A D cy ad cL_arms 11 RL) (hr : meth.sig.returnType = (some .boolean)) (hfl : l.stackTraces = false) {h0 k0 : Nat} {hs ks : Nat → Nat} {ta tb : TAd} (v0 : OBv) (v1 : OBv) (x2 : Int32) (x3 : Int32) (x5 : Int32) (x6 : Int32) (x7 : Int32) (x9 : Int32) {q : Bool × OBv × OBv} (hf : f_L_arms_b201 v0 v1 x2 x3 x5 x6 x7 x9 = some q) : GW p l e rmL_arms s m args below meth c A D 11 20 120 (MQ below (cmQ D cy A (some (.int (b2i q.1))) ([OB cy h0 hs ta q.2.1, OB cy k0 ks tb q.2.2] : List va_W).flatten) args s 40 240 A) 201 [(0, .ref h0), (1, .ref k0), (2, .int x2), (3, .int x3), (5, .int x5), (6, .int x6), (7, .int x7), (9, .int x9)] [] [OB cy h0 hs ta v0, OB cy k0 ks tb v1] := by
  unfold f_L_arms_b201 at hf
  refine g_iconst X (0 : Int32) dL_arms_201 (by decide) ?_
  exact j_L_arms_b202 X hr hfl v0 v1 x2 x3 x5 x6 x7 x9 false hf
def f_L_arms_b136 (v0 : OBv) (v1 : OBv) (x2 : Int32) (x3 : Int32) (x5 : Int32) (x6 : Int32) (x7 : Int32) (y0 : Bool) : Option (Bool × OBv × OBv) :=
  (f_L_most v0 x2 x3).bind (fun q1242 => if (b2i y0) = 0 then f_L_arms_b201 q1242.2 v1 x2 x3 x5 x6 x7 q1242.1 else (f_O_call q1242.2 (7 : Int32) (x7 / (100 : Int32)) (x7 - x7 / (100 : Int32) * (100 : Int32)) (0 : Int32)).bind (fun q1265 => (f_L_thrown q1265.1).bind (fun q1266 => if (b2i q1266) = 0 then (f_O_call v1 (7 : Int32) (x7 / (100 : Int32)) (x7 - x7 / (100 : Int32) * (100 : Int32)) (0 : Int32)).bind (fun q1267 => (f_L_thrown q1267.1).bind (fun q1268 => if (b2i q1268) = 0 then f_L_arms_b202 q1265.2 q1267.2 x2 x3 x5 x6 x7 q1242.1 true else f_L_arms_b201 q1265.2 q1267.2 x2 x3 x5 x6 x7 q1242.1)) else f_L_arms_b201 q1265.2 v1 x2 x3 x5 x6 x7 q1242.1)))
set_option maxRecDepth 100000 in
set_option maxHeartbeats 4000000 in
theorem j_L_arms_b136 {p : Program} {l : Launch} {e : Env} {s : State} {m : MethodId} {args : Array Value} {below : List Frame} {meth : Method} {c : Code} {A : Nat → Prop} {D : va_G} {cy : Nat → ClassId} {ad : (Nat → Nat) × (Nat → Nat)} (X : gK p s m args meth c A D cy ad cL_arms 11 RL) (hr : meth.sig.returnType = (some .boolean)) (hfl : l.stackTraces = false) {h0 k0 : Nat} {hs ks : Nat → Nat} {ta tb : TAd} (v0 : OBv) (v1 : OBv) (x2 : Int32) (x3 : Int32) (x5 : Int32) (x6 : Int32) (x7 : Int32) (y0 : Bool) {q : Bool × OBv × OBv} (hf : f_L_arms_b136 v0 v1 x2 x3 x5 x6 x7 y0 = some q) : GW p l e rmL_arms s m args below meth c A D 11 8 48 (MQ below (cmQ D cy A (some (.int (b2i q.1))) ([OB cy h0 hs ta q.2.1, OB cy k0 ks tb q.2.2] : List va_W).flatten) args s 40 240 A) 136 [(0, .ref h0), (1, .ref k0), (2, .int x2), (3, .int x3), (5, .int x5), (6, .int x6), (7, .int x7)] [.int (b2i y0)] [OB cy h0 hs ta v0, OB cy k0 ks tb v1] := by
  unfold f_L_arms_b136 at hf
  refine g_istore (lv' := [(0, .ref h0), (1, .ref k0), (2, .int x2), (3, .int x3), (5, .int x5), (6, .int x6), (7, .int x7), (8, .int (b2i y0))]) X dL_arms_136 [1, 2, 3, 4, 5, 6, 7, 0] (Nat.le_of_ble_eq_true rfl) rfl ?_
  refine g_aload_n X dL_arms_138 0 rfl rfl ?_
  refine g_iload_n X dL_arms_139 2 rfl rfl ?_
  refine g_iload_n X dL_arms_140 3 rfl rfl ?_
  obtain ⟨q1242, hq1242, hf⟩ := obind hf
  refine g_callS (gs' := [OB cy h0 hs ta q1242.2, OB cy k0 ks tb v1]) (rest := []) X dL_arms_141 (c_L_most l D cy ad h0 hs ta v0 x2 x3 hfl hq1242) mf_L_most ms_L_most lkm_L_171 ⟨(Nat.le_of_ble_eq_true rfl), (Nat.le_of_ble_eq_true rfl), (Nat.le_of_ble_eq_true rfl), (Nat.le_of_ble_eq_true rfl)⟩ [0, 1] _ (by decide : [0, 1].Perm (List.range 2)) rfl (by decide : [0, 1].Perm (List.range 2)) rfl (Nat.le_of_ble_eq_true rfl) rfl ?_
  refine g_cs (c' := 16) (s' := 96) rfl rfl ?_
  refine g_istore (lv' := [(0, .ref h0), (1, .ref k0), (2, .int x2), (3, .int x3), (5, .int x5), (6, .int x6), (7, .int x7), (8, .int (b2i y0)), (9, .int q1242.1)]) X dL_arms_144 [1, 2, 3, 4, 5, 6, 7, 8, 0] (Nat.le_of_ble_eq_true rfl) rfl ?_
  refine g_iload X dL_arms_146 7 rfl ?_
  refine g_if_eq X 201 dL_arms_148 (by decide) (fun c1271 => ?_) (fun c1271 => ?_)
  · have hf := opos c1271 hf
    refine g_widen (k := 20) (n := 120) (Nat.le_of_ble_eq_true rfl) (Nat.le_of_ble_eq_true rfl) ?_
    refine g_sub [0, 1, 2, 3, 4, 5, 6, 8] (lv' := [(0, .ref h0), (1, .ref k0), (2, .int x2), (3, .int x3), (5, .int x5), (6, .int x6), (7, .int x7), (9, .int q1242.1)]) rfl ?_
    exact j_L_arms_b201 X hr hfl q1242.2 v1 x2 x3 x5 x6 x7 q1242.1 hf
  · have hf := oneg c1271 hf
    refine g_aload_n X dL_arms_151 0 rfl rfl ?_
    refine g_bipush X (7 : Int32) dL_arms_152 (by decide) ?_
    refine g_iload X dL_arms_154 6 rfl ?_
    refine g_bipush X (100 : Int32) dL_arms_156 (by decide) ?_
    refine g_idiv X dL_arms_158 (by decide) ?_
    refine g_iload X dL_arms_159 6 rfl ?_
    refine g_bipush X (100 : Int32) dL_arms_161 (by decide) ?_
    refine g_irem X dL_arms_163 (by decide) ?_
    refine g_iconst X (0 : Int32) dL_arms_164 (by decide) ?_
    obtain ⟨q1265, hq1265, hf⟩ := obind hf
    refine g_callS (gs' := [OB cy h0 hs ta q1265.2, OB cy k0 ks tb v1]) (rest := []) X dL_arms_165 (o_L_call l D cy ad h0 hs ta q1242.2 (7 : Int32) (x7 / (100 : Int32)) (x7 - x7 / (100 : Int32) * (100 : Int32)) (0 : Int32) hfl hq1265) mf_L_call ms_L_call lkm_L_144 ⟨(Nat.le_of_ble_eq_true rfl), (Nat.le_of_ble_eq_true rfl), (Nat.le_of_ble_eq_true rfl), (Nat.le_of_ble_eq_true rfl)⟩ [0, 1] _ (by decide : [0, 1].Perm (List.range 2)) rfl (by decide : [0, 1].Perm (List.range 2)) rfl (Nat.le_of_ble_eq_true rfl) rfl ?_
    refine g_cs (c' := 18) (s' := 108) rfl rfl ?_
    obtain ⟨q1266, hq1266, hf⟩ := obind hf
    refine g_callS (gs' := [OB cy h0 hs ta q1265.2, OB cy k0 ks tb v1]) (rest := []) X dL_arms_168 (c_L_thrown l D cy ad q1265.1 hq1266) mf_L_thrown ms_L_thrown lkm_L_201 ⟨(Nat.le_of_ble_eq_true rfl), (Nat.le_of_ble_eq_true rfl), (Nat.le_of_ble_eq_true rfl), (Nat.le_of_ble_eq_true rfl)⟩ [0, 1] _ (by decide : [0, 1].Perm (List.range 2)) rfl (by decide : [0, 1].Perm (List.range 2)) rfl (Nat.le_of_ble_eq_true rfl) rfl ?_
    refine g_if_ne X 201 dL_arms_171 (by decide) (fun c1270 => ?_) (fun c1270 => ?_)
    · have hf := oneg c1270 hf
      refine g_widen (k := 20) (n := 120) (Nat.le_of_ble_eq_true rfl) (Nat.le_of_ble_eq_true rfl) ?_
      refine g_sub [0, 1, 2, 3, 4, 5, 6, 8] (lv' := [(0, .ref h0), (1, .ref k0), (2, .int x2), (3, .int x3), (5, .int x5), (6, .int x6), (7, .int x7), (9, .int q1242.1)]) rfl ?_
      exact j_L_arms_b201 X hr hfl q1265.2 v1 x2 x3 x5 x6 x7 q1242.1 hf
    · have hf := opos c1270 hf
      refine g_aload_n X dL_arms_174 1 rfl rfl ?_
      refine g_bipush X (7 : Int32) dL_arms_175 (by decide) ?_
      refine g_iload X dL_arms_177 6 rfl ?_
      refine g_bipush X (100 : Int32) dL_arms_179 (by decide) ?_
      refine g_idiv X dL_arms_181 (by decide) ?_
      refine g_iload X dL_arms_182 6 rfl ?_
      refine g_bipush X (100 : Int32) dL_arms_184 (by decide) ?_
      refine g_irem X dL_arms_186 (by decide) ?_
      refine g_iconst X (0 : Int32) dL_arms_187 (by decide) ?_
      obtain ⟨q1267, hq1267, hf⟩ := obind hf
      refine g_callS (gs' := [OB cy h0 hs ta q1265.2, OB cy k0 ks tb q1267.2]) (rest := []) X dL_arms_188 (o_L_call l D cy ad k0 ks tb v1 (7 : Int32) (x7 / (100 : Int32)) (x7 - x7 / (100 : Int32) * (100 : Int32)) (0 : Int32) hfl hq1267) mf_L_call ms_L_call lkm_L_144 ⟨(Nat.le_of_ble_eq_true rfl), (Nat.le_of_ble_eq_true rfl), (Nat.le_of_ble_eq_true rfl), (Nat.le_of_ble_eq_true rfl)⟩ [1, 0] _ (by decide : [1, 0].Perm (List.range 2)) rfl (by decide : [1, 0].Perm (List.range 2)) rfl (Nat.le_of_ble_eq_true rfl) rfl ?_
      refine g_cs (c' := 20) (s' := 120) rfl rfl ?_
      obtain ⟨q1268, hq1268, hf⟩ := obind hf
      refine g_callS (gs' := [OB cy h0 hs ta q1265.2, OB cy k0 ks tb q1267.2]) (rest := []) X dL_arms_191 (c_L_thrown l D cy ad q1267.1 hq1268) mf_L_thrown ms_L_thrown lkm_L_201 ⟨(Nat.le_of_ble_eq_true rfl), (Nat.le_of_ble_eq_true rfl), (Nat.le_of_ble_eq_true rfl), (Nat.le_of_ble_eq_true rfl)⟩ [0, 1] _ (by decide : [0, 1].Perm (List.range 2)) rfl (by decide : [0, 1].Perm (List.range 2)) rfl (Nat.le_of_ble_eq_true rfl) rfl ?_
      refine g_if_ne X 201 dL_arms_194 (by decide) (fun c1269 => ?_) (fun c1269 => ?_)
      · have hf := oneg c1269 hf
        refine g_sub [0, 1, 2, 3, 4, 5, 6, 8] (lv' := [(0, .ref h0), (1, .ref k0), (2, .int x2), (3, .int x3), (5, .int x5), (6, .int x6), (7, .int x7), (9, .int q1242.1)]) rfl ?_
        exact j_L_arms_b201 X hr hfl q1265.2 q1267.2 x2 x3 x5 x6 x7 q1242.1 hf
      · have hf := opos c1269 hf
        refine g_iconst X (1 : Int32) dL_arms_197 (by decide) ?_
        refine g_goto X 202 dL_arms_198 (by decide) ?_
        refine g_sub [0, 1, 2, 3, 4, 5, 6, 8] (lv' := [(0, .ref h0), (1, .ref k0), (2, .int x2), (3, .int x3), (5, .int x5), (6, .int x6), (7, .int x7), (9, .int q1242.1)]) rfl ?_
        exact j_L_arms_b202 X hr hfl q1265.2 q1267.2 x2 x3 x5 x6 x7 q1242.1 true hf
def f_L_arms_b135 (v0 : OBv) (v1 : OBv) (x2 : Int32) (x3 : Int32) (x5 : Int32) (x6 : Int32) (x7 : Int32) : Option (Bool × OBv × OBv) :=
  f_L_arms_b136 v0 v1 x2 x3 x5 x6 x7 false
set_option maxRecDepth 100000 in
set_option maxHeartbeats 4000000 in
theorem j_L_arms_b135 {p : Program} {l : Launch} {e : Env} {s : State} {m : MethodId} {args : Array Value} {below : List Frame} {meth : Method} {c : Code} {A : Nat → Prop} {D : va_G} {cy : Nat → ClassId} {ad : (Nat → Nat) × (Nat → Nat)} (X : gK p s m args meth c A D cy ad cL_arms 11 RL) (hr : meth.sig.returnType = (some .boolean)) (hfl : l.stackTraces = false) {h0 k0 : Nat} {hs ks : Nat → Nat} {ta tb : TAd} (v0 : OBv) (v1 : OBv) (x2 : Int32) (x3 : Int32) (x5 : Int32) (x6 : Int32) (x7 : Int32) {q : Bool × OBv × OBv} (hf : f_L_arms_b135 v0 v1 x2 x3 x5 x6 x7 = some q) : GW p l e rmL_arms s m args below meth c A D 11 8 48 (MQ below (cmQ D cy A (some (.int (b2i q.1))) ([OB cy h0 hs ta q.2.1, OB cy k0 ks tb q.2.2] : List va_W).flatten) args s 40 240 A) 135 [(0, .ref h0), (1, .ref k0), (2, .int x2), (3, .int x3), (5, .int x5), (6, .int x6), (7, .int x7)] [] [OB cy h0 hs ta v0, OB cy k0 ks tb v1] := by
  unfold f_L_arms_b135 at hf
  refine g_iconst X (0 : Int32) dL_arms_135 (by decide) ?_
  exact j_L_arms_b136 X hr hfl v0 v1 x2 x3 x5 x6 x7 false hf
def f_L_arms_b70 (v0 : OBv) (v1 : OBv) (x2 : Int32) (x3 : Int32) (x5 : Int32) (x6 : Int32) (x7 : Int32) : Option (Bool × OBv × OBv) :=
  if x5 < (101 : Int32) then f_L_arms_b135 v0 v1 x2 x3 x5 x6 x7 else if (2020 : Int32) < x5 then f_L_arms_b135 v0 v1 x2 x3 x5 x6 x7 else (f_O_call v0 (7 : Int32) (x5 / (100 : Int32)) (x5 - x5 / (100 : Int32) * (100 : Int32)) (0 : Int32)).bind (fun q1272 => (f_L_thrown q1272.1).bind (fun q1273 => if (b2i q1273) = 0 then (f_O_call v1 (7 : Int32) (x5 / (100 : Int32)) (x5 - x5 / (100 : Int32) * (100 : Int32)) (0 : Int32)).bind (fun q1274 => (f_L_thrown q1274.1).bind (fun q1275 => if (b2i q1275) = 0 then f_L_arms_b136 q1272.2 q1274.2 x2 x3 x5 x6 x7 true else f_L_arms_b135 q1272.2 q1274.2 x2 x3 x5 x6 x7)) else f_L_arms_b135 q1272.2 v1 x2 x3 x5 x6 x7))
set_option maxRecDepth 100000 in
set_option maxHeartbeats 4000000 in
theorem j_L_arms_b70 {p : Program} {l : Launch} {e : Env} {s : State} {m : MethodId} {args : Array Value} {below : List Frame} {meth : Method} {c : Code} {A : Nat → Prop} {D : va_G} {cy : Nat → ClassId} {ad : (Nat → Nat) × (Nat → Nat)} (X : gK p s m args meth c A D cy ad cL_arms 11 RL) (hr : meth.sig.returnType = (some .boolean)) (hfl : l.stackTraces = false) {h0 k0 : Nat} {hs ks : Nat → Nat} {ta tb : TAd} (v0 : OBv) (v1 : OBv) (x2 : Int32) (x3 : Int32) (x5 : Int32) (x6 : Int32) (x7 : Int32) {q : Bool × OBv × OBv} (hf : f_L_arms_b70 v0 v1 x2 x3 x5 x6 x7 = some q) : GW p l e rmL_arms s m args below meth c A D 11 4 24 (MQ below (cmQ D cy A (some (.int (b2i q.1))) ([OB cy h0 hs ta q.2.1, OB cy k0 ks tb q.2.2] : List va_W).flatten) args s 40 240 A) 70 [(0, .ref h0), (1, .ref k0), (2, .int x2), (3, .int x3), (5, .int x5), (6, .int x6), (7, .int x7)] [] [OB cy h0 hs ta v0, OB cy k0 ks tb v1] := by
  unfold f_L_arms_b70 at hf
  refine g_iload X dL_arms_70 4 rfl ?_
  refine g_bipush X (101 : Int32) dL_arms_72 (by decide) ?_
  refine g_icmp_lt X 135 dL_arms_74 (by decide) (fun c1279 => ?_) (fun c1279 => ?_)
  · have hf := opos c1279 hf
    refine g_widen (k := 8) (n := 48) (Nat.le_of_ble_eq_true rfl) (Nat.le_of_ble_eq_true rfl) ?_
    exact j_L_arms_b135 X hr hfl v0 v1 x2 x3 x5 x6 x7 hf
  · have hf := oneg c1279 hf
    refine g_iload X dL_arms_77 4 rfl ?_
    refine g_sipush X (2020 : Int32) dL_arms_79 (by decide) ?_
    refine g_icmp_gt X 135 dL_arms_82 (by decide) (fun c1278 => ?_) (fun c1278 => ?_)
    · have hf := opos c1278 hf
      refine g_widen (k := 8) (n := 48) (Nat.le_of_ble_eq_true rfl) (Nat.le_of_ble_eq_true rfl) ?_
      exact j_L_arms_b135 X hr hfl v0 v1 x2 x3 x5 x6 x7 hf
    · have hf := oneg c1278 hf
      refine g_aload_n X dL_arms_85 0 rfl rfl ?_
      refine g_bipush X (7 : Int32) dL_arms_86 (by decide) ?_
      refine g_iload X dL_arms_88 4 rfl ?_
      refine g_bipush X (100 : Int32) dL_arms_90 (by decide) ?_
      refine g_idiv X dL_arms_92 (by decide) ?_
      refine g_iload X dL_arms_93 4 rfl ?_
      refine g_bipush X (100 : Int32) dL_arms_95 (by decide) ?_
      refine g_irem X dL_arms_97 (by decide) ?_
      refine g_iconst X (0 : Int32) dL_arms_98 (by decide) ?_
      obtain ⟨q1272, hq1272, hf⟩ := obind hf
      refine g_callS (gs' := [OB cy h0 hs ta q1272.2, OB cy k0 ks tb v1]) (rest := []) X dL_arms_99 (o_L_call l D cy ad h0 hs ta v0 (7 : Int32) (x5 / (100 : Int32)) (x5 - x5 / (100 : Int32) * (100 : Int32)) (0 : Int32) hfl hq1272) mf_L_call ms_L_call lkm_L_144 ⟨(Nat.le_of_ble_eq_true rfl), (Nat.le_of_ble_eq_true rfl), (Nat.le_of_ble_eq_true rfl), (Nat.le_of_ble_eq_true rfl)⟩ [0, 1] _ (by decide : [0, 1].Perm (List.range 2)) rfl (by decide : [0, 1].Perm (List.range 2)) rfl (Nat.le_of_ble_eq_true rfl) rfl ?_
      refine g_cs (c' := 6) (s' := 36) rfl rfl ?_
      obtain ⟨q1273, hq1273, hf⟩ := obind hf
      refine g_callS (gs' := [OB cy h0 hs ta q1272.2, OB cy k0 ks tb v1]) (rest := []) X dL_arms_102 (c_L_thrown l D cy ad q1272.1 hq1273) mf_L_thrown ms_L_thrown lkm_L_201 ⟨(Nat.le_of_ble_eq_true rfl), (Nat.le_of_ble_eq_true rfl), (Nat.le_of_ble_eq_true rfl), (Nat.le_of_ble_eq_true rfl)⟩ [0, 1] _ (by decide : [0, 1].Perm (List.range 2)) rfl (by decide : [0, 1].Perm (List.range 2)) rfl (Nat.le_of_ble_eq_true rfl) rfl ?_
      refine g_if_ne X 135 dL_arms_105 (by decide) (fun c1277 => ?_) (fun c1277 => ?_)
      · have hf := oneg c1277 hf
        refine g_widen (k := 8) (n := 48) (Nat.le_of_ble_eq_true rfl) (Nat.le_of_ble_eq_true rfl) ?_
        exact j_L_arms_b135 X hr hfl q1272.2 v1 x2 x3 x5 x6 x7 hf
      · have hf := opos c1277 hf
        refine g_aload_n X dL_arms_108 1 rfl rfl ?_
        refine g_bipush X (7 : Int32) dL_arms_109 (by decide) ?_
        refine g_iload X dL_arms_111 4 rfl ?_
        refine g_bipush X (100 : Int32) dL_arms_113 (by decide) ?_
        refine g_idiv X dL_arms_115 (by decide) ?_
        refine g_iload X dL_arms_116 4 rfl ?_
        refine g_bipush X (100 : Int32) dL_arms_118 (by decide) ?_
        refine g_irem X dL_arms_120 (by decide) ?_
        refine g_iconst X (0 : Int32) dL_arms_121 (by decide) ?_
        obtain ⟨q1274, hq1274, hf⟩ := obind hf
        refine g_callS (gs' := [OB cy h0 hs ta q1272.2, OB cy k0 ks tb q1274.2]) (rest := []) X dL_arms_122 (o_L_call l D cy ad k0 ks tb v1 (7 : Int32) (x5 / (100 : Int32)) (x5 - x5 / (100 : Int32) * (100 : Int32)) (0 : Int32) hfl hq1274) mf_L_call ms_L_call lkm_L_144 ⟨(Nat.le_of_ble_eq_true rfl), (Nat.le_of_ble_eq_true rfl), (Nat.le_of_ble_eq_true rfl), (Nat.le_of_ble_eq_true rfl)⟩ [1, 0] _ (by decide : [1, 0].Perm (List.range 2)) rfl (by decide : [1, 0].Perm (List.range 2)) rfl (Nat.le_of_ble_eq_true rfl) rfl ?_
        refine g_cs (c' := 8) (s' := 48) rfl rfl ?_
        obtain ⟨q1275, hq1275, hf⟩ := obind hf
        refine g_callS (gs' := [OB cy h0 hs ta q1272.2, OB cy k0 ks tb q1274.2]) (rest := []) X dL_arms_125 (c_L_thrown l D cy ad q1274.1 hq1275) mf_L_thrown ms_L_thrown lkm_L_201 ⟨(Nat.le_of_ble_eq_true rfl), (Nat.le_of_ble_eq_true rfl), (Nat.le_of_ble_eq_true rfl), (Nat.le_of_ble_eq_true rfl)⟩ [0, 1] _ (by decide : [0, 1].Perm (List.range 2)) rfl (by decide : [0, 1].Perm (List.range 2)) rfl (Nat.le_of_ble_eq_true rfl) rfl ?_
        refine g_if_ne X 135 dL_arms_128 (by decide) (fun c1276 => ?_) (fun c1276 => ?_)
        · have hf := oneg c1276 hf
          exact j_L_arms_b135 X hr hfl q1272.2 q1274.2 x2 x3 x5 x6 x7 hf
        · have hf := opos c1276 hf
          refine g_iconst X (1 : Int32) dL_arms_131 (by decide) ?_
          refine g_goto X 136 dL_arms_132 (by decide) ?_
          exact j_L_arms_b136 X hr hfl q1272.2 q1274.2 x2 x3 x5 x6 x7 true hf
def f_L_arms (v0 : OBv) (v1 : OBv) (p2 : Int32) (p3 : Int32) (p4 : Int32) : Option (Bool × OBv × OBv) :=
  if (p2 ||| p3) = 0 then (f_O_call v0 (14 : Int32) p2 p3 (0 : Int32)).bind (fun q1280 => if q1280.1 = (-9999002 : Int32) then some (true, q1280.2, v1) else some (false, q1280.2, v1)) else (f_O_call v0 (14 : Int32) p2 p3 (0 : Int32)).bind (fun q1240 => (f_O_call q1240.2 (2 : Int32) (4 : Int32) (0 : Int32) (0 : Int32)).bind (fun q1241 => f_L_arms_b70 q1241.2 v1 p2 p3 q1240.1 q1241.1 ((((100 : Int32) * ((1 : Int32) + (p4 - p4 / (20 : Int32) * (20 : Int32)))) + (1 : Int32)) + ((p4 / (20 : Int32)) - (p4 / (20 : Int32)) / (20 : Int32) * (20 : Int32)))))
set_option maxRecDepth 100000 in
set_option maxHeartbeats 4000000 in
theorem c_L_arms (l : Launch) (D : va_G) (cy : Nat → ClassId) (ad : (Nat → Nat) × (Nat → Nat)) (h0 : Nat) (hs : Nat → Nat) (ta : TAd) (k0 : Nat) (ks : Nat → Nat) (tb : TAd) (v0 : OBv) (v1 : OBv) (p2 : Int32) (p3 : Int32) (p4 : Int32) (hfl : l.stackTraces = false) {q : Bool × OBv × OBv} (hf : f_L_arms v0 v1 p2 p3 p4 = some q) : CM l yL_arms cL_arms 11 (some .boolean) rmL_arms D cy ad [.ref h0, .ref k0, .int p2, .int p3, .int p4] [OB cy h0 hs ta v0, OB cy k0 ks tb v1] (some (.int (b2i q.1))) [OB cy h0 hs ta q.2.1, OB cy k0 ks tb q.2.2] := by
  refine cm_of (lv0 := [(0, .ref h0), (1, .ref k0), (2, .int p2), (3, .int p3), (4, .int p4)]) (by decide) (Nat.le_of_ble_eq_true rfl) rfl ?_
  intro p e s m args below meth c A X hr hn
  have X : gK p s m args meth c A D cy ad cL_arms 11 RL := X
  unfold f_L_arms at hf
  refine g_iload_n X dL_arms_0 2 rfl rfl ?_
  refine g_iload_n X dL_arms_1 3 rfl rfl ?_
  refine g_ior X dL_arms_2 ?_
  refine g_if_ne X 26 dL_arms_3 (by decide) (fun c1282 => ?_) (fun c1282 => ?_)
  · have hf := oneg c1282 hf
    refine g_aload_n X dL_arms_26 0 rfl rfl ?_
    refine g_bipush X (14 : Int32) dL_arms_27 (by decide) ?_
    refine g_iload_n X dL_arms_29 2 rfl rfl ?_
    refine g_iload_n X dL_arms_30 3 rfl rfl ?_
    refine g_iconst X (0 : Int32) dL_arms_31 (by decide) ?_
    obtain ⟨q1240, hq1240, hf⟩ := obind hf
    refine g_callS (gs' := [OB cy h0 hs ta q1240.2, OB cy k0 ks tb v1]) (rest := []) X dL_arms_32 (o_L_call l D cy ad h0 hs ta v0 (14 : Int32) p2 p3 (0 : Int32) hfl hq1240) mf_L_call ms_L_call lkm_L_144 ⟨(Nat.le_of_ble_eq_true rfl), (Nat.le_of_ble_eq_true rfl), (Nat.le_of_ble_eq_true rfl), (Nat.le_of_ble_eq_true rfl)⟩ [0, 1] _ (by decide : [0, 1].Perm (List.range 2)) rfl (by decide : [0, 1].Perm (List.range 2)) rfl (Nat.le_of_ble_eq_true rfl) rfl ?_
    refine g_cs (c' := 2) (s' := 12) rfl rfl ?_
    refine g_istore (lv' := [(0, .ref h0), (1, .ref k0), (2, .int p2), (3, .int p3), (4, .int p4), (5, .int q1240.1)]) X dL_arms_35 [1, 2, 3, 4, 5, 0] (Nat.le_of_ble_eq_true rfl) rfl ?_
    refine g_aload_n X dL_arms_37 0 rfl rfl ?_
    refine g_iconst X (2 : Int32) dL_arms_38 (by decide) ?_
    refine g_iconst X (4 : Int32) dL_arms_39 (by decide) ?_
    refine g_iconst X (0 : Int32) dL_arms_40 (by decide) ?_
    refine g_iconst X (0 : Int32) dL_arms_41 (by decide) ?_
    obtain ⟨q1241, hq1241, hf⟩ := obind hf
    refine g_callS (gs' := [OB cy h0 hs ta q1241.2, OB cy k0 ks tb v1]) (rest := []) X dL_arms_42 (o_L_call l D cy ad h0 hs ta q1240.2 (2 : Int32) (4 : Int32) (0 : Int32) (0 : Int32) hfl hq1241) mf_L_call ms_L_call lkm_L_144 ⟨(Nat.le_of_ble_eq_true rfl), (Nat.le_of_ble_eq_true rfl), (Nat.le_of_ble_eq_true rfl), (Nat.le_of_ble_eq_true rfl)⟩ [0, 1] _ (by decide : [0, 1].Perm (List.range 2)) rfl (by decide : [0, 1].Perm (List.range 2)) rfl (Nat.le_of_ble_eq_true rfl) rfl ?_
    refine g_cs (c' := 4) (s' := 24) rfl rfl ?_
    refine g_istore (lv' := [(0, .ref h0), (1, .ref k0), (2, .int p2), (3, .int p3), (4, .int p4), (5, .int q1240.1), (6, .int q1241.1)]) X dL_arms_45 [1, 2, 3, 4, 5, 6, 0] (Nat.le_of_ble_eq_true rfl) rfl ?_
    refine g_bipush X (100 : Int32) dL_arms_47 (by decide) ?_
    refine g_iconst X (1 : Int32) dL_arms_49 (by decide) ?_
    refine g_iload X dL_arms_50 4 rfl ?_
    refine g_bipush X (20 : Int32) dL_arms_52 (by decide) ?_
    refine g_irem X dL_arms_54 (by decide) ?_
    refine g_iadd X dL_arms_55 ?_
    refine g_imul X dL_arms_56 ?_
    refine g_iconst X (1 : Int32) dL_arms_57 (by decide) ?_
    refine g_iadd X dL_arms_58 ?_
    refine g_iload X dL_arms_59 4 rfl ?_
    refine g_bipush X (20 : Int32) dL_arms_61 (by decide) ?_
    refine g_idiv X dL_arms_63 (by decide) ?_
    refine g_bipush X (20 : Int32) dL_arms_64 (by decide) ?_
    refine g_irem X dL_arms_66 (by decide) ?_
    refine g_iadd X dL_arms_67 ?_
    refine g_istore (lv' := [(0, .ref h0), (1, .ref k0), (2, .int p2), (3, .int p3), (4, .int p4), (5, .int q1240.1), (6, .int q1241.1), (7, .int ((((100 : Int32) * ((1 : Int32) + (p4 - p4 / (20 : Int32) * (20 : Int32)))) + (1 : Int32)) + ((p4 / (20 : Int32)) - (p4 / (20 : Int32)) / (20 : Int32) * (20 : Int32))))]) X dL_arms_68 [1, 2, 3, 4, 5, 6, 7, 0] (Nat.le_of_ble_eq_true rfl) rfl ?_
    refine g_sub [0, 1, 2, 3, 5, 6, 7] (lv' := [(0, .ref h0), (1, .ref k0), (2, .int p2), (3, .int p3), (5, .int q1240.1), (6, .int q1241.1), (7, .int ((((100 : Int32) * ((1 : Int32) + (p4 - p4 / (20 : Int32) * (20 : Int32)))) + (1 : Int32)) + ((p4 / (20 : Int32)) - (p4 / (20 : Int32)) / (20 : Int32) * (20 : Int32))))]) rfl ?_
    exact j_L_arms_b70 X hr hfl q1241.2 v1 p2 p3 q1240.1 q1241.1 ((((100 : Int32) * ((1 : Int32) + (p4 - p4 / (20 : Int32) * (20 : Int32)))) + (1 : Int32)) + ((p4 / (20 : Int32)) - (p4 / (20 : Int32)) / (20 : Int32) * (20 : Int32))) hf
  · have hf := opos c1282 hf
    refine g_aload_n X dL_arms_6 0 rfl rfl ?_
    refine g_bipush X (14 : Int32) dL_arms_7 (by decide) ?_
    refine g_iload_n X dL_arms_9 2 rfl rfl ?_
    refine g_iload_n X dL_arms_10 3 rfl rfl ?_
    refine g_iconst X (0 : Int32) dL_arms_11 (by decide) ?_
    obtain ⟨q1280, hq1280, hf⟩ := obind hf
    refine g_callS (gs' := [OB cy h0 hs ta q1280.2, OB cy k0 ks tb v1]) (rest := []) X dL_arms_12 (o_L_call l D cy ad h0 hs ta v0 (14 : Int32) p2 p3 (0 : Int32) hfl hq1280) mf_L_call ms_L_call lkm_L_144 ⟨(Nat.le_of_ble_eq_true rfl), (Nat.le_of_ble_eq_true rfl), (Nat.le_of_ble_eq_true rfl), (Nat.le_of_ble_eq_true rfl)⟩ [0, 1] _ (by decide : [0, 1].Perm (List.range 2)) rfl (by decide : [0, 1].Perm (List.range 2)) rfl (Nat.le_of_ble_eq_true rfl) rfl ?_
    refine g_cs (c' := 2) (s' := 12) rfl rfl ?_
    refine g_ldc X lkc_L_22 dL_arms_15 ?_
    refine g_icmp_ne X 24 dL_arms_17 (by decide) (fun c1281 => ?_) (fun c1281 => ?_)
    · have hf := oneg c1281 hf
      refine g_iconst X (0 : Int32) dL_arms_24 (by decide) ?_
      refine g_widen (k := 40) (n := 240) (Nat.le_of_ble_eq_true rfl) (Nat.le_of_ble_eq_true rfl) ?_
      have hf := Option.some.inj hf
      subst hf
      exact g_zret (b := false) X hr dL_arms_25
    · have hf := opos c1281 hf
      refine g_iconst X (1 : Int32) dL_arms_20 (by decide) ?_
      refine g_goto X 25 dL_arms_21 (by decide) ?_
      refine g_widen (k := 40) (n := 240) (Nat.le_of_ble_eq_true rfl) (Nat.le_of_ble_eq_true rfl) ?_
      have hf := Option.some.inj hf
      subst hf
      exact g_zret (b := true) X hr dL_arms_25
