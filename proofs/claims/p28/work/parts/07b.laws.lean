abbrev rmL_thrown : Room := ({ frames := 0, cells := 0, slots := 0, locals := 0 } : Room)
def f_L_thrown (p0 : Int32) : Option (Bool) :=
  if p0 = (-9999001 : Int32) then some true else if p0 = (-9999002 : Int32) then some true else if p0 = (-9999003 : Int32) then some true else some false
set_option maxRecDepth 100000 in
set_option maxHeartbeats 4000000 in
theorem c_L_thrown (l : Launch) (D : va_G) (cy : Nat → ClassId) (ad : (Nat → Nat) × (Nat → Nat)) (p0 : Int32) {q : Bool} (hf : f_L_thrown p0 = some q) : CM l yL_thrown cL_thrown 1 (some .boolean) rmL_thrown D cy ad [.int p0] [] (some (.int (b2i q))) [] := by
  refine cm_of (lv0 := [(0, .int p0)]) (by decide) (Nat.le_of_ble_eq_true rfl) rfl ?_
  intro p e s m args below meth c A X hr hn
  have X : gK p s m args meth c A D cy ad cL_thrown 1 RL := X
  unfold f_L_thrown at hf
  refine g_iload_n X dL_thrown_0 0 rfl rfl ?_
  refine g_ldc X lkc_L_15 dL_thrown_1 ?_
  refine g_icmp_eq X 18 dL_thrown_3 (by decide) (fun c959 => ?_) (fun c959 => ?_)
  · have hf := opos c959 hf
    refine g_iconst X (1 : Int32) dL_thrown_18 (by decide) ?_
    refine g_goto X 23 dL_thrown_19 (by decide) ?_
    have hf := Option.some.inj hf
    subst hf
    exact g_zret (b := true) X hr dL_thrown_23
  · have hf := oneg c959 hf
    refine g_iload_n X dL_thrown_6 0 rfl rfl ?_
    refine g_ldc X lkc_L_22 dL_thrown_7 ?_
    refine g_icmp_eq X 18 dL_thrown_9 (by decide) (fun c958 => ?_) (fun c958 => ?_)
    · have hf := opos c958 hf
      refine g_iconst X (1 : Int32) dL_thrown_18 (by decide) ?_
      refine g_goto X 23 dL_thrown_19 (by decide) ?_
      have hf := Option.some.inj hf
      subst hf
      exact g_zret (b := true) X hr dL_thrown_23
    · have hf := oneg c958 hf
      refine g_iload_n X dL_thrown_12 0 rfl rfl ?_
      refine g_ldc X lkc_L_33 dL_thrown_13 ?_
      refine g_icmp_ne X 22 dL_thrown_15 (by decide) (fun c957 => ?_) (fun c957 => ?_)
      · have hf := oneg c957 hf
        refine g_iconst X (0 : Int32) dL_thrown_22 (by decide) ?_
        have hf := Option.some.inj hf
        subst hf
        exact g_zret (b := false) X hr dL_thrown_23
      · have hf := opos c957 hf
        refine g_iconst X (1 : Int32) dL_thrown_18 (by decide) ?_
        refine g_goto X 23 dL_thrown_19 (by decide) ?_
        have hf := Option.some.inj hf
        subst hf
        exact g_zret (b := true) X hr dL_thrown_23
abbrev rmL_most : Room := ({ frames := 10, cells := 8, slots := 48, locals := 185 } : Room)
def f_L_most_B5_b35 (v0 : OBv) (x1 : Int32) (x2 : Int32) (x4 : Int32) (y0 : Int32) : Option ((Int32 × Int32 × OBv) ⊕ ((Int32 × OBv))) :=
  some (.inl (y0, (x4 + (1 : Int32)), v0))
set_option maxRecDepth 100000 in
set_option maxHeartbeats 4000000 in
theorem j_L_most_B5_b35 {p : Program} {l : Launch} {e : Env} {s : State} {m : MethodId} {args : Array Value} {below : List Frame} {meth : Method} {c : Code} {A : Nat → Prop} {D : va_G} {cy : Nat → ClassId} {ad : (Nat → Nat) × (Nat → Nat)} {Q : State → Prop} (X : gK p s m args meth c A D cy ad cL_most 6 RL) (hr : meth.sig.returnType = (some .int)) (hfl : l.stackTraces = false) {cb sb : Nat} (hk1 : ∀ k, k ≤ 2 → cb + k ≤ rmL_most.cells) (hk2 : ∀ k, k ≤ 12 → sb + k ≤ rmL_most.slots) {h0 : Nat} {hs : Nat → Nat} {ta : TAd} (v0 : OBv) (x1 : Int32) (x2 : Int32) (x4 : Int32) (y0 : Int32) {q : (Int32 × Int32 × OBv) ⊕ ((Int32 × OBv))} (hf : f_L_most_B5_b35 v0 x1 x2 x4 y0 = some q) (K1 : ∀ s' : Int32 × Int32 × OBv, q = .inl s' → GW p l e rmL_most s m args below meth c A D 6 (cb + 2) (sb + 12) Q 5 [(0, .ref h0), (1, .int x1), (2, .int x2), (3, .int s'.1), (4, .int s'.2.1)] [] [OB cy h0 hs ta s'.2.2]) (K2 : ∀ e' : Int32 × OBv, q = .inr (e') → GW p l e rmL_most s m args below meth c A D 6 (cb + 2) (sb + 12) Q 42 [(3, .int e'.1)] [] [OB cy h0 hs ta e'.2]) : GW p l e rmL_most s m args below meth c A D 6 (cb + 2) (sb + 12) Q 35 [(0, .ref h0), (1, .int x1), (2, .int x2), (4, .int x4)] [.int y0] [OB cy h0 hs ta v0] := by
  unfold f_L_most_B5_b35 at hf
  refine g_istore_n (lv' := [(0, .ref h0), (1, .int x1), (2, .int x2), (3, .int y0), (4, .int x4)]) X dL_most_35 [1, 2, 3, 0, 4] rfl (Nat.le_of_ble_eq_true rfl) rfl ?_
  refine g_iinc (lv' := [(0, .ref h0), (1, .int x1), (2, .int x2), (3, .int y0), (4, .int (x4 + (1 : Int32)))]) (v := (1 : Int32)) X dL_most_36 4 rfl (by decide) [1, 2, 3, 4, 0] (Nat.le_of_ble_eq_true rfl) rfl ?_
  refine g_goto X 5 dL_most_39 (by decide) ?_
  exact K1 (y0, (x4 + (1 : Int32)), v0) (Option.some.inj hf).symm
def f_L_most_B5 (x1 : Int32) (x2 : Int32) (z : Int32 × Int32 × OBv) : Option ((Int32 × Int32 × OBv) ⊕ ((Int32 × OBv))) :=
  if (3 : Int32) ≤ z.2.1 then some (.inr ((z.1, z.2.2))) else (f_O_call z.2.2 (12 : Int32) x1 x2 z.2.1).bind (fun q961 => if q961.1 ≤ z.1 then f_L_most_B5_b35 q961.2 x1 x2 z.2.1 z.1 else f_L_most_B5_b35 q961.2 x1 x2 z.2.1 q961.1)
set_option maxRecDepth 100000 in
set_option maxHeartbeats 4000000 in
theorem b_L_most_B5 {p : Program} {l : Launch} {e : Env} {s : State} {m : MethodId} {args : Array Value} {below : List Frame} {meth : Method} {c : Code} {A : Nat → Prop} {D : va_G} {cy : Nat → ClassId} {ad : (Nat → Nat) × (Nat → Nat)} {Q : State → Prop} (X : gK p s m args meth c A D cy ad cL_most 6 RL) (hr : meth.sig.returnType = (some .int)) (hfl : l.stackTraces = false) {cb sb : Nat} (hk1 : ∀ k, k ≤ 2 → cb + k ≤ rmL_most.cells) (hk2 : ∀ k, k ≤ 12 → sb + k ≤ rmL_most.slots) {h0 : Nat} {hs : Nat → Nat} {ta : TAd} (x1 : Int32) (x2 : Int32) (z : Int32 × Int32 × OBv) {q : (Int32 × Int32 × OBv) ⊕ ((Int32 × OBv))} (hf : f_L_most_B5 x1 x2 z = some q) (K1 : ∀ s' : Int32 × Int32 × OBv, q = .inl s' → GW p l e rmL_most s m args below meth c A D 6 (cb + 2) (sb + 12) Q 5 [(0, .ref h0), (1, .int x1), (2, .int x2), (3, .int s'.1), (4, .int s'.2.1)] [] [OB cy h0 hs ta s'.2.2]) (K2 : ∀ e' : Int32 × OBv, q = .inr (e') → GW p l e rmL_most s m args below meth c A D 6 (cb + 2) (sb + 12) Q 42 [(3, .int e'.1)] [] [OB cy h0 hs ta e'.2]) : GW p l e rmL_most s m args below meth c A D 6 cb sb Q 5 [(0, .ref h0), (1, .int x1), (2, .int x2), (3, .int z.1), (4, .int z.2.1)] [] [OB cy h0 hs ta z.2.2] := by
  unfold f_L_most_B5 at hf
  refine g_iload X dL_most_5 4 rfl ?_
  refine g_iconst X (3 : Int32) dL_most_7 (by decide) ?_
  refine g_icmp_ge X 42 dL_most_8 (by decide) (fun c963 => ?_) (fun c963 => ?_)
  · have hf := opos c963 hf
    refine g_widen (k := (cb + 2)) (n := (sb + 12)) (by omega) (by omega) ?_
    refine g_sub [3] (lv' := [(3, .int z.1)]) rfl ?_
    exact K2 (z.1, z.2.2) (Option.some.inj hf).symm
  · have hf := oneg c963 hf
    refine g_aload_n X dL_most_11 0 rfl rfl ?_
    refine g_bipush X (12 : Int32) dL_most_12 (by decide) ?_
    refine g_iload_n X dL_most_14 1 rfl rfl ?_
    refine g_iload_n X dL_most_15 2 rfl rfl ?_
    refine g_iload X dL_most_16 4 rfl ?_
    obtain ⟨q961, hq961, hf⟩ := obind hf
    refine g_callS (gs' := [OB cy h0 hs ta q961.2]) (rest := []) X dL_most_18 (o_L_call l D cy ad h0 hs ta z.2.2 (12 : Int32) x1 x2 z.2.1 hfl hq961) mf_L_call ms_L_call lkm_L_144 ⟨(Nat.le_of_ble_eq_true rfl), (Nat.le_of_ble_eq_true rfl), hk1 2 (by decide), hk2 12 (by decide)⟩ [0] _ (by decide : [0].Perm (List.range 1)) rfl (by decide : [0].Perm (List.range 1)) rfl (Nat.le_of_ble_eq_true rfl) rfl ?_
    refine g_cs (c' := (cb + 2)) (s' := (sb + 12)) rfl rfl ?_
    refine g_istore (lv' := [(0, .ref h0), (1, .int x1), (2, .int x2), (3, .int z.1), (4, .int z.2.1), (5, .int q961.1)]) X dL_most_21 [1, 2, 3, 4, 5, 0] (Nat.le_of_ble_eq_true rfl) rfl ?_
    refine g_iload X dL_most_23 5 rfl ?_
    refine g_iload_n X dL_most_25 3 rfl rfl ?_
    refine g_icmp_le X 34 dL_most_26 (by decide) (fun c962 => ?_) (fun c962 => ?_)
    · have hf := opos c962 hf
      refine g_iload_n X dL_most_34 3 rfl rfl ?_
      refine g_sub [0, 1, 2, 4] (lv' := [(0, .ref h0), (1, .int x1), (2, .int x2), (4, .int z.2.1)]) rfl ?_
      exact j_L_most_B5_b35 X hr hfl hk1 hk2 q961.2 x1 x2 z.2.1 z.1 hf K1 K2
    · have hf := oneg c962 hf
      refine g_iload X dL_most_29 5 rfl ?_
      refine g_goto X 35 dL_most_31 (by decide) ?_
      refine g_sub [0, 1, 2, 4] (lv' := [(0, .ref h0), (1, .int x1), (2, .int x2), (4, .int z.2.1)]) rfl ?_
      exact j_L_most_B5_b35 X hr hfl hk1 hk2 q961.2 x1 x2 z.2.1 q961.1 hf K1 K2
set_option maxRecDepth 100000 in
set_option maxHeartbeats 4000000 in
theorem w_L_most_B5 {p : Program} {l : Launch} {e : Env} {s : State} {m : MethodId} {args : Array Value} {below : List Frame} {meth : Method} {c : Code} {A : Nat → Prop} {D : va_G} {cy : Nat → ClassId} {ad : (Nat → Nat) × (Nat → Nat)} {Q : State → Prop} (X : gK p s m args meth c A D cy ad cL_most 6 RL) (hr : meth.sig.returnType = (some .int)) (hfl : l.stackTraces = false) {h0 : Nat} {hs : Nat → Nat} {ta : TAd} (x1 : Int32) (x2 : Int32) : ∀ {n : Nat} {cb sb : Nat} {z : Int32 × Int32 × OBv} {q : (Int32 × OBv)} (hf : itl (f_L_most_B5 x1 x2) n z = some q) (h1 : cb + n * 2 ≤ rmL_most.cells) (h2 : sb + n * 12 ≤ rmL_most.slots) (K : GW p l e rmL_most s m args below meth c A D 6 (cb + n * 2) (sb + n * 12) Q 42 [(3, .int q.1)] [] [OB cy h0 hs ta q.2]), GW p l e rmL_most s m args below meth c A D 6 cb sb Q 5 [(0, .ref h0), (1, .int x1), (2, .int x2), (3, .int z.1), (4, .int z.2.1)] [] [OB cy h0 hs ta z.2.2] := by
  intro n
  induction n with
  | zero => intro cb sb z q hf; exact nomatch hf
  | succ n ih =>
    intro cb sb z q hf h1 h2 K
    have e1 : cb + 2 + n * 2 = cb + (n + 1) * 2 := by rw [Nat.succ_mul]; omega
    have e2 : sb + 12 + n * 12 = sb + (n + 1) * 12 := by rw [Nat.succ_mul]; omega
    cases hq : f_L_most_B5 x1 x2 z with
    | none => rw [itl, hq] at hf; exact nomatch hf
    | some q9 =>
      rw [itl, hq] at hf
      refine b_L_most_B5 X hr hfl (fun k hk => by omega) (fun k hk => by omega) x1 x2 z hq (fun s' hs => ?_) (fun e' he => ?_)
      · subst hs
        exact ih hf (by omega) (by omega) (by rw [e1, e2]; exact K)
      · subst he
        cases (Option.some.inj hf)
        exact g_widen (by omega) (by omega) K
def f_L_most (v0 : OBv) (p1 : Int32) (p2 : Int32) : Option (Int32 × OBv) :=
  (itl (f_L_most_B5 p1 p2) 4 ((0 : Int32), (0 : Int32), v0)).bind (fun q965 => some (q965.1, q965.2))
set_option maxRecDepth 100000 in
set_option maxHeartbeats 4000000 in
theorem c_L_most (l : Launch) (D : va_G) (cy : Nat → ClassId) (ad : (Nat → Nat) × (Nat → Nat)) (h0 : Nat) (hs : Nat → Nat) (ta : TAd) (v0 : OBv) (p1 : Int32) (p2 : Int32) (hfl : l.stackTraces = false) {q : Int32 × OBv} (hf : f_L_most v0 p1 p2 = some q) : CM l yL_most cL_most 6 (some .int) rmL_most D cy ad [.ref h0, .int p1, .int p2] [OB cy h0 hs ta v0] (some (.int q.1)) [OB cy h0 hs ta q.2] := by
  refine cm_of (lv0 := [(0, .ref h0), (1, .int p1), (2, .int p2)]) (by decide) (Nat.le_of_ble_eq_true rfl) rfl ?_
  intro p e s m args below meth c A X hr hn
  have X : gK p s m args meth c A D cy ad cL_most 6 RL := X
  unfold f_L_most at hf
  refine g_iconst X (0 : Int32) dL_most_0 (by decide) ?_
  refine g_istore_n (lv' := [(0, .ref h0), (1, .int p1), (2, .int p2), (3, .int (0 : Int32))]) X dL_most_1 [1, 2, 3, 0] rfl (Nat.le_of_ble_eq_true rfl) rfl ?_
  refine g_iconst X (0 : Int32) dL_most_2 (by decide) ?_
  refine g_istore (lv' := [(0, .ref h0), (1, .int p1), (2, .int p2), (3, .int (0 : Int32)), (4, .int (0 : Int32))]) X dL_most_3 [1, 2, 3, 4, 0] (Nat.le_of_ble_eq_true rfl) rfl ?_
  obtain ⟨q965, hq965, hf⟩ := obind hf
  refine w_L_most_B5 X hr hfl p1 p2 (n := 4) (cb := 0) (sb := 0) hq965 (Nat.le_of_ble_eq_true rfl) (Nat.le_of_ble_eq_true rfl) ?_
  refine g_cs (c' := 8) (s' := 48) rfl rfl ?_
  refine g_iload_n X dL_most_42 0 rfl rfl ?_
  have hf := Option.some.inj hf
  subst hf
  exact g_iret X hr dL_most_43
abbrev rmL_act : Room := ({ frames := 10, cells := 6, slots := 36, locals := 185 } : Room)
def f_L_act_b180 (v0 : OBv) (y0 : Bool) (y1 : Int32) : Option (Int32 × OBv) :=
  (f_O_accuses v0 y1 y0).bind (fun q1006 => some (q1006.1, q1006.2))
set_option maxRecDepth 100000 in
set_option maxHeartbeats 4000000 in
theorem j_L_act_b180 {p : Program} {l : Launch} {e : Env} {s : State} {m : MethodId} {args : Array Value} {below : List Frame} {meth : Method} {c : Code} {A : Nat → Prop} {D : va_G} {cy : Nat → ClassId} {ad : (Nat → Nat) × (Nat → Nat)} (X : gK p s m args meth c A D cy ad cL_act 6 RL) (hr : meth.sig.returnType = (some .int)) (hfl : l.stackTraces = false) {h0 : Nat} {hs : Nat → Nat} {ta : TAd} (v0 : OBv) (y0 : Bool) (y1 : Int32) {q : Int32 × OBv} (hf : f_L_act_b180 v0 y0 y1 = some q) : GW p l e rmL_act s m args below meth c A D 6 2 12 (MQ below (cmQ D cy A (some (.int q.1)) ([OB cy h0 hs ta q.2] : List va_W).flatten) args s 6 36 A) 180 [] [.int (b2i y0), .int y1, .ref h0] [OB cy h0 hs ta v0] := by
  unfold f_L_act_b180 at hf
  obtain ⟨q1006, hq1006, hf⟩ := obind hf
  refine g_callSW (gs' := [OB cy h0 hs ta q1006.2]) (rest := []) X dL_act_180 (o_L_accuses l D cy ad h0 hs ta v0 y1 y0 hfl hq1006) mfw_L_accuses ms_L_accuses lkm_L_148 ⟨(Nat.le_of_ble_eq_true rfl), (Nat.le_of_ble_eq_true rfl), (Nat.le_of_ble_eq_true rfl), (Nat.le_of_ble_eq_true rfl)⟩ [0] _ (by decide : [0].Perm (List.range 1)) rfl (by decide : [0].Perm (List.range 1)) rfl (Nat.le_of_ble_eq_true rfl) rfl ?_
  refine g_cs (c' := 3) (s' := 18) rfl rfl ?_
  refine g_widen (k := 6) (n := 36) (Nat.le_of_ble_eq_true rfl) (Nat.le_of_ble_eq_true rfl) ?_
  have hf := Option.some.inj hf
  subst hf
  exact g_iret X hr dL_act_183
def f_L_act_b155 (v0 : OBv) (y0 : Int32) (y1 : Int32) (y2 : Int32) : Option (Int32 × OBv) :=
  (f_O_call v0 y2 y1 y0 (0 : Int32)).bind (fun q1008 => some (q1008.1, q1008.2))
set_option maxRecDepth 100000 in
set_option maxHeartbeats 4000000 in
theorem j_L_act_b155 {p : Program} {l : Launch} {e : Env} {s : State} {m : MethodId} {args : Array Value} {below : List Frame} {meth : Method} {c : Code} {A : Nat → Prop} {D : va_G} {cy : Nat → ClassId} {ad : (Nat → Nat) × (Nat → Nat)} (X : gK p s m args meth c A D cy ad cL_act 6 RL) (hr : meth.sig.returnType = (some .int)) (hfl : l.stackTraces = false) {h0 : Nat} {hs : Nat → Nat} {ta : TAd} (v0 : OBv) (y0 : Int32) (y1 : Int32) (y2 : Int32) {q : Int32 × OBv} (hf : f_L_act_b155 v0 y0 y1 y2 = some q) : GW p l e rmL_act s m args below meth c A D 6 2 12 (MQ below (cmQ D cy A (some (.int q.1)) ([OB cy h0 hs ta q.2] : List va_W).flatten) args s 6 36 A) 155 [] [.int y0, .int y1, .int y2, .ref h0] [OB cy h0 hs ta v0] := by
  unfold f_L_act_b155 at hf
  refine g_iconst X (0 : Int32) dL_act_155 (by decide) ?_
  obtain ⟨q1008, hq1008, hf⟩ := obind hf
  refine g_callS (gs' := [OB cy h0 hs ta q1008.2]) (rest := []) X dL_act_156 (o_L_call l D cy ad h0 hs ta v0 y2 y1 y0 (0 : Int32) hfl hq1008) mf_L_call ms_L_call lkm_L_144 ⟨(Nat.le_of_ble_eq_true rfl), (Nat.le_of_ble_eq_true rfl), (Nat.le_of_ble_eq_true rfl), (Nat.le_of_ble_eq_true rfl)⟩ [0] _ (by decide : [0].Perm (List.range 1)) rfl (by decide : [0].Perm (List.range 1)) rfl (Nat.le_of_ble_eq_true rfl) rfl ?_
  refine g_cs (c' := 4) (s' := 24) rfl rfl ?_
  refine g_widen (k := 6) (n := 36) (Nat.le_of_ble_eq_true rfl) (Nat.le_of_ble_eq_true rfl) ?_
  have hf := Option.some.inj hf
  subst hf
  exact g_iret X hr dL_act_159
def f_L_act_b135 (v0 : OBv) (x2 : Int32) (y0 : Int32) (y1 : Int32) : Option (Int32 × OBv) :=
  if (x2 - x2 / (3 : Int32) * (3 : Int32)) = 0 then f_L_act_b155 v0 ((1 : Int32) + ((x2 / (60 : Int32)) - (x2 / (60 : Int32)) / (20 : Int32) * (20 : Int32))) y0 y1 else f_L_act_b155 v0 (10 : Int32) y0 y1
set_option maxRecDepth 100000 in
set_option maxHeartbeats 4000000 in
theorem j_L_act_b135 {p : Program} {l : Launch} {e : Env} {s : State} {m : MethodId} {args : Array Value} {below : List Frame} {meth : Method} {c : Code} {A : Nat → Prop} {D : va_G} {cy : Nat → ClassId} {ad : (Nat → Nat) × (Nat → Nat)} (X : gK p s m args meth c A D cy ad cL_act 6 RL) (hr : meth.sig.returnType = (some .int)) (hfl : l.stackTraces = false) {h0 : Nat} {hs : Nat → Nat} {ta : TAd} (v0 : OBv) (x2 : Int32) (y0 : Int32) (y1 : Int32) {q : Int32 × OBv} (hf : f_L_act_b135 v0 x2 y0 y1 = some q) : GW p l e rmL_act s m args below meth c A D 6 2 12 (MQ below (cmQ D cy A (some (.int q.1)) ([OB cy h0 hs ta q.2] : List va_W).flatten) args s 6 36 A) 135 [(2, .int x2)] [.int y0, .int y1, .ref h0] [OB cy h0 hs ta v0] := by
  unfold f_L_act_b135 at hf
  refine g_iload_n X dL_act_135 0 rfl rfl ?_
  refine g_iconst X (3 : Int32) dL_act_136 (by decide) ?_
  refine g_irem X dL_act_137 (by decide) ?_
  refine g_if_ne X 153 dL_act_138 (by decide) (fun c1009 => ?_) (fun c1009 => ?_)
  · have hf := oneg c1009 hf
    refine g_bipush X (10 : Int32) dL_act_153 (by decide) ?_
    refine g_sub [] (lv' := []) rfl ?_
    exact j_L_act_b155 X hr hfl v0 (10 : Int32) y0 y1 hf
  · have hf := opos c1009 hf
    refine g_iconst X (1 : Int32) dL_act_141 (by decide) ?_
    refine g_iload_n X dL_act_142 0 rfl rfl ?_
    refine g_bipush X (60 : Int32) dL_act_143 (by decide) ?_
    refine g_idiv X dL_act_145 (by decide) ?_
    refine g_bipush X (20 : Int32) dL_act_146 (by decide) ?_
    refine g_irem X dL_act_148 (by decide) ?_
    refine g_iadd X dL_act_149 ?_
    refine g_goto X 155 dL_act_150 (by decide) ?_
    refine g_sub [] (lv' := []) rfl ?_
    exact j_L_act_b155 X hr hfl v0 ((1 : Int32) + ((x2 / (60 : Int32)) - (x2 / (60 : Int32)) / (20 : Int32) * (20 : Int32))) y0 y1 hf
def f_L_act_b31 (v0 : OBv) (x1 : Int32) (x2 : Int32) (x3 : Int32) (x4 : Int32) (x5 : Int32) : Option (Int32 × OBv) :=
  if (x1 - x1 / (16 : Int32) * (16 : Int32)) = (0 : Int32) then (f_O_call v0 (6 : Int32) ((3 : Int32) + (x2 - x2 / (7 : Int32) * (7 : Int32))) ((x2 / (8 : Int32)) - (x2 / (8 : Int32)) / (45 : Int32) * (45 : Int32)) (0 : Int32)).bind (fun q1012 => some (q1012.1, q1012.2)) else if (x1 - x1 / (16 : Int32) * (16 : Int32)) = (1 : Int32) then if (x2 - x2 / (3 : Int32) * (3 : Int32)) = 0 then f_L_act_b135 v0 x2 ((1 : Int32) + ((x2 / (3 : Int32)) - (x2 / (3 : Int32)) / (20 : Int32) * (20 : Int32))) (7 : Int32) else f_L_act_b135 v0 x2 (10 : Int32) (7 : Int32) else if (x1 - x1 / (16 : Int32) * (16 : Int32)) = (2 : Int32) then if (x2 - x2 / (3 : Int32) * (3 : Int32)) = 0 then f_L_act_b135 v0 x2 ((1 : Int32) + ((x2 / (3 : Int32)) - (x2 / (3 : Int32)) / (20 : Int32) * (20 : Int32))) (7 : Int32) else f_L_act_b135 v0 x2 (10 : Int32) (7 : Int32) else if (x1 - x1 / (16 : Int32) * (16 : Int32)) = (3 : Int32) then if ((x2 / (12 : Int32)) - (x2 / (12 : Int32)) / (2 : Int32) * (2 : Int32)) = (1 : Int32) then f_L_act_b180 v0 true (x2 - x2 / (12 : Int32) * (12 : Int32)) else f_L_act_b180 v0 false (x2 - x2 / (12 : Int32) * (12 : Int32)) else if (x1 - x1 / (16 : Int32) * (16 : Int32)) = (4 : Int32) then (f_O_call v0 (9 : Int32) (x2 - x2 / (3 : Int32) * (3 : Int32)) (0 : Int32) (0 : Int32)).bind (fun q1005 => some (q1005.1, q1005.2)) else if (x1 - x1 / (16 : Int32) * (16 : Int32)) = (5 : Int32) then (f_O_call v0 (10 : Int32) (0 : Int32) (0 : Int32) (0 : Int32)).bind (fun q1004 => some (q1004.1, q1004.2)) else if (x1 - x1 / (16 : Int32) * (16 : Int32)) = (6 : Int32) then (f_O_call v0 (2 : Int32) (3 : Int32) (0 : Int32) (0 : Int32)).bind (fun q1001 => if (2 : Int32) ≤ q1001.1 then (f_O_call q1001.2 (11 : Int32) (0 : Int32) (0 : Int32) (0 : Int32)).bind (fun q1002 => some (q1002.1, q1002.2)) else some ((-1 : Int32), q1001.2)) else if (x1 - x1 / (16 : Int32) * (16 : Int32)) = (7 : Int32) then if (x2 - x2 / (2 : Int32) * (2 : Int32)) = 0 then (f_O_call v0 (15 : Int32) ((x2 / (2 : Int32)) - (x2 / (2 : Int32)) / (2 : Int32) * (2 : Int32)) (0 : Int32) (0 : Int32)).bind (fun q999 => some (q999.1, q999.2)) else (f_O_call v0 (16 : Int32) ((x2 / (2 : Int32)) - (x2 / (2 : Int32)) / (2 : Int32) * (2 : Int32)) (0 : Int32) (0 : Int32)).bind (fun q998 => some (q998.1, q998.2)) else if (x1 - x1 / (16 : Int32) * (16 : Int32)) = (8 : Int32) then (f_O_call v0 (8 : Int32) x5 (((x2 / (4096 : Int32)) &&& x4) &&& (x5 ^^^ (-1 : Int32))) (0 : Int32)).bind (fun q997 => some (q997.1, q997.2)) else if (x1 - x1 / (16 : Int32) * (16 : Int32)) = (9 : Int32) then (f_O_call v0 (8 : Int32) x5 (((x2 / (4096 : Int32)) &&& x4) &&& (x5 ^^^ (-1 : Int32))) (0 : Int32)).bind (fun q996 => some (q996.1, q996.2)) else if (x1 - x1 / (16 : Int32) * (16 : Int32)) = (10 : Int32) then (f_O_call v0 (8 : Int32) x5 (((x2 / (4096 : Int32)) &&& x4) &&& (x5 ^^^ (-1 : Int32))) (0 : Int32)).bind (fun q995 => some (q995.1, q995.2)) else if x3 = 0 then none else if x3 = 0 then none else (f_O_call v0 (8 : Int32) ((1 : Int32) <<< ((x2 - x2 / x3 * x3) &&& 31)) ((1 : Int32) <<< ((((x2 + (1 : Int32)) + ((x2 / (16 : Int32)) - (x2 / (16 : Int32)) / (2 : Int32) * (2 : Int32))) - ((x2 + (1 : Int32)) + ((x2 / (16 : Int32)) - (x2 / (16 : Int32)) / (2 : Int32) * (2 : Int32))) / x3 * x3) &&& 31)) (0 : Int32)).bind (fun q983 => some (q983.1, q983.2))
set_option maxRecDepth 100000 in
set_option maxHeartbeats 4000000 in
theorem j_L_act_b31 {p : Program} {l : Launch} {e : Env} {s : State} {m : MethodId} {args : Array Value} {below : List Frame} {meth : Method} {c : Code} {A : Nat → Prop} {D : va_G} {cy : Nat → ClassId} {ad : (Nat → Nat) × (Nat → Nat)} (X : gK p s m args meth c A D cy ad cL_act 6 RL) (hr : meth.sig.returnType = (some .int)) (hfl : l.stackTraces = false) {h0 : Nat} {hs : Nat → Nat} {ta : TAd} (v0 : OBv) (x1 : Int32) (x2 : Int32) (x3 : Int32) (x4 : Int32) (x5 : Int32) {q : Int32 × OBv} (hf : f_L_act_b31 v0 x1 x2 x3 x4 x5 = some q) : GW p l e rmL_act s m args below meth c A D 6 2 12 (MQ below (cmQ D cy A (some (.int q.1)) ([OB cy h0 hs ta q.2] : List va_W).flatten) args s 6 36 A) 31 [(0, .ref h0), (1, .int x1), (2, .int x2), (3, .int x3), (4, .int x4), (5, .int x5)] [] [OB cy h0 hs ta v0] := by
  unfold f_L_act_b31 at hf
  refine g_iload_n X dL_act_31 1 rfl rfl ?_
  refine g_bipush X (16 : Int32) dL_act_32 (by decide) ?_
  refine g_irem X dL_act_34 (by decide) ?_
  by_cases c984 : (x1 - x1 / (16 : Int32) * (16 : Int32)) = (0 : Int32)
  · have hf := opos c984 hf
    refine g_tableIn (off := 57) X 92 dL_act_35 (by rw [c984]; decide) (by rw [c984]; decide) (by rw [c984]; decide) (by decide) ?_
    refine g_aload_n X dL_act_92 0 rfl rfl ?_
    refine g_bipush X (6 : Int32) dL_act_93 (by decide) ?_
    refine g_iconst X (3 : Int32) dL_act_95 (by decide) ?_
    refine g_iload_n X dL_act_96 2 rfl rfl ?_
    refine g_bipush X (7 : Int32) dL_act_97 (by decide) ?_
    refine g_irem X dL_act_99 (by decide) ?_
    refine g_iadd X dL_act_100 ?_
    refine g_iload_n X dL_act_101 2 rfl rfl ?_
    refine g_bipush X (8 : Int32) dL_act_102 (by decide) ?_
    refine g_idiv X dL_act_104 (by decide) ?_
    refine g_bipush X (45 : Int32) dL_act_105 (by decide) ?_
    refine g_irem X dL_act_107 (by decide) ?_
    refine g_iconst X (0 : Int32) dL_act_108 (by decide) ?_
    obtain ⟨q1012, hq1012, hf⟩ := obind hf
    refine g_callS (gs' := [OB cy h0 hs ta q1012.2]) (rest := []) X dL_act_109 (o_L_call l D cy ad h0 hs ta v0 (6 : Int32) ((3 : Int32) + (x2 - x2 / (7 : Int32) * (7 : Int32))) ((x2 / (8 : Int32)) - (x2 / (8 : Int32)) / (45 : Int32) * (45 : Int32)) (0 : Int32) hfl hq1012) mf_L_call ms_L_call lkm_L_144 ⟨(Nat.le_of_ble_eq_true rfl), (Nat.le_of_ble_eq_true rfl), (Nat.le_of_ble_eq_true rfl), (Nat.le_of_ble_eq_true rfl)⟩ [0] _ (by decide : [0].Perm (List.range 1)) rfl (by decide : [0].Perm (List.range 1)) rfl (Nat.le_of_ble_eq_true rfl) rfl ?_
    refine g_cs (c' := 4) (s' := 24) rfl rfl ?_
    refine g_widen (k := 6) (n := 36) (Nat.le_of_ble_eq_true rfl) (Nat.le_of_ble_eq_true rfl) ?_
    have hf := Option.some.inj hf
    subst hf
    exact g_iret X hr dL_act_112
  · have hf := oneg c984 hf
    by_cases c985 : (x1 - x1 / (16 : Int32) * (16 : Int32)) = (1 : Int32)
    · have hf := opos c985 hf
      refine g_tableIn (off := 78) X 113 dL_act_35 (by rw [c985]; decide) (by rw [c985]; decide) (by rw [c985]; decide) (by decide) ?_
      refine g_aload_n X dL_act_113 0 rfl rfl ?_
      refine g_bipush X (7 : Int32) dL_act_114 (by decide) ?_
      refine g_iload_n X dL_act_116 2 rfl rfl ?_
      refine g_iconst X (3 : Int32) dL_act_117 (by decide) ?_
      refine g_irem X dL_act_118 (by decide) ?_
      refine g_if_ne X 133 dL_act_119 (by decide) (fun c1011 => ?_) (fun c1011 => ?_)
      · have hf := oneg c1011 hf
        refine g_bipush X (10 : Int32) dL_act_133 (by decide) ?_
        refine g_sub [2] (lv' := [(2, .int x2)]) rfl ?_
        exact j_L_act_b135 X hr hfl v0 x2 (10 : Int32) (7 : Int32) hf
      · have hf := opos c1011 hf
        refine g_iconst X (1 : Int32) dL_act_122 (by decide) ?_
        refine g_iload_n X dL_act_123 2 rfl rfl ?_
        refine g_iconst X (3 : Int32) dL_act_124 (by decide) ?_
        refine g_idiv X dL_act_125 (by decide) ?_
        refine g_bipush X (20 : Int32) dL_act_126 (by decide) ?_
        refine g_irem X dL_act_128 (by decide) ?_
        refine g_iadd X dL_act_129 ?_
        refine g_goto X 135 dL_act_130 (by decide) ?_
        refine g_sub [2] (lv' := [(2, .int x2)]) rfl ?_
        exact j_L_act_b135 X hr hfl v0 x2 ((1 : Int32) + ((x2 / (3 : Int32)) - (x2 / (3 : Int32)) / (20 : Int32) * (20 : Int32))) (7 : Int32) hf
    · have hf := oneg c985 hf
      by_cases c986 : (x1 - x1 / (16 : Int32) * (16 : Int32)) = (2 : Int32)
      · have hf := opos c986 hf
        refine g_tableIn (off := 78) X 113 dL_act_35 (by rw [c986]; decide) (by rw [c986]; decide) (by rw [c986]; decide) (by decide) ?_
        refine g_aload_n X dL_act_113 0 rfl rfl ?_
        refine g_bipush X (7 : Int32) dL_act_114 (by decide) ?_
        refine g_iload_n X dL_act_116 2 rfl rfl ?_
        refine g_iconst X (3 : Int32) dL_act_117 (by decide) ?_
        refine g_irem X dL_act_118 (by decide) ?_
        refine g_if_ne X 133 dL_act_119 (by decide) (fun c1010 => ?_) (fun c1010 => ?_)
        · have hf := oneg c1010 hf
          refine g_bipush X (10 : Int32) dL_act_133 (by decide) ?_
          refine g_sub [2] (lv' := [(2, .int x2)]) rfl ?_
          exact j_L_act_b135 X hr hfl v0 x2 (10 : Int32) (7 : Int32) hf
        · have hf := opos c1010 hf
          refine g_iconst X (1 : Int32) dL_act_122 (by decide) ?_
          refine g_iload_n X dL_act_123 2 rfl rfl ?_
          refine g_iconst X (3 : Int32) dL_act_124 (by decide) ?_
          refine g_idiv X dL_act_125 (by decide) ?_
          refine g_bipush X (20 : Int32) dL_act_126 (by decide) ?_
          refine g_irem X dL_act_128 (by decide) ?_
          refine g_iadd X dL_act_129 ?_
          refine g_goto X 135 dL_act_130 (by decide) ?_
          refine g_sub [2] (lv' := [(2, .int x2)]) rfl ?_
          exact j_L_act_b135 X hr hfl v0 x2 ((1 : Int32) + ((x2 / (3 : Int32)) - (x2 / (3 : Int32)) / (20 : Int32) * (20 : Int32))) (7 : Int32) hf
      · have hf := oneg c986 hf
        by_cases c987 : (x1 - x1 / (16 : Int32) * (16 : Int32)) = (3 : Int32)
        · have hf := opos c987 hf
          refine g_tableIn (off := 125) X 160 dL_act_35 (by rw [c987]; decide) (by rw [c987]; decide) (by rw [c987]; decide) (by decide) ?_
          refine g_aload_n X dL_act_160 0 rfl rfl ?_
          refine g_iload_n X dL_act_161 2 rfl rfl ?_
          refine g_bipush X (12 : Int32) dL_act_162 (by decide) ?_
          refine g_irem X dL_act_164 (by decide) ?_
          refine g_iload_n X dL_act_165 2 rfl rfl ?_
          refine g_bipush X (12 : Int32) dL_act_166 (by decide) ?_
          refine g_idiv X dL_act_168 (by decide) ?_
          refine g_iconst X (2 : Int32) dL_act_169 (by decide) ?_
          refine g_irem X dL_act_170 (by decide) ?_
          refine g_iconst X (1 : Int32) dL_act_171 (by decide) ?_
          refine g_icmp_ne X 179 dL_act_172 (by decide) (fun c1007 => ?_) (fun c1007 => ?_)
          · have hf := oneg c1007 hf
            refine g_iconst X (0 : Int32) dL_act_179 (by decide) ?_
            refine g_sub [] (lv' := []) rfl ?_
            exact j_L_act_b180 X hr hfl v0 false (x2 - x2 / (12 : Int32) * (12 : Int32)) hf
          · have hf := opos c1007 hf
            refine g_iconst X (1 : Int32) dL_act_175 (by decide) ?_
            refine g_goto X 180 dL_act_176 (by decide) ?_
            refine g_sub [] (lv' := []) rfl ?_
            exact j_L_act_b180 X hr hfl v0 true (x2 - x2 / (12 : Int32) * (12 : Int32)) hf
        · have hf := oneg c987 hf
          by_cases c988 : (x1 - x1 / (16 : Int32) * (16 : Int32)) = (4 : Int32)
          · have hf := opos c988 hf
            refine g_tableIn (off := 149) X 184 dL_act_35 (by rw [c988]; decide) (by rw [c988]; decide) (by rw [c988]; decide) (by decide) ?_
            refine g_aload_n X dL_act_184 0 rfl rfl ?_
            refine g_bipush X (9 : Int32) dL_act_185 (by decide) ?_
            refine g_iload_n X dL_act_187 2 rfl rfl ?_
            refine g_iconst X (3 : Int32) dL_act_188 (by decide) ?_
            refine g_irem X dL_act_189 (by decide) ?_
            refine g_iconst X (0 : Int32) dL_act_190 (by decide) ?_
            refine g_iconst X (0 : Int32) dL_act_191 (by decide) ?_
            obtain ⟨q1005, hq1005, hf⟩ := obind hf
            refine g_callS (gs' := [OB cy h0 hs ta q1005.2]) (rest := []) X dL_act_192 (o_L_call l D cy ad h0 hs ta v0 (9 : Int32) (x2 - x2 / (3 : Int32) * (3 : Int32)) (0 : Int32) (0 : Int32) hfl hq1005) mf_L_call ms_L_call lkm_L_144 ⟨(Nat.le_of_ble_eq_true rfl), (Nat.le_of_ble_eq_true rfl), (Nat.le_of_ble_eq_true rfl), (Nat.le_of_ble_eq_true rfl)⟩ [0] _ (by decide : [0].Perm (List.range 1)) rfl (by decide : [0].Perm (List.range 1)) rfl (Nat.le_of_ble_eq_true rfl) rfl ?_
            refine g_cs (c' := 4) (s' := 24) rfl rfl ?_
            refine g_widen (k := 6) (n := 36) (Nat.le_of_ble_eq_true rfl) (Nat.le_of_ble_eq_true rfl) ?_
            have hf := Option.some.inj hf
            subst hf
            exact g_iret X hr dL_act_195
          · have hf := oneg c988 hf
            by_cases c989 : (x1 - x1 / (16 : Int32) * (16 : Int32)) = (5 : Int32)
            · have hf := opos c989 hf
              refine g_tableIn (off := 161) X 196 dL_act_35 (by rw [c989]; decide) (by rw [c989]; decide) (by rw [c989]; decide) (by decide) ?_
              refine g_aload_n X dL_act_196 0 rfl rfl ?_
              refine g_bipush X (10 : Int32) dL_act_197 (by decide) ?_
              refine g_iconst X (0 : Int32) dL_act_199 (by decide) ?_
              refine g_iconst X (0 : Int32) dL_act_200 (by decide) ?_
              refine g_iconst X (0 : Int32) dL_act_201 (by decide) ?_
              obtain ⟨q1004, hq1004, hf⟩ := obind hf
              refine g_callS (gs' := [OB cy h0 hs ta q1004.2]) (rest := []) X dL_act_202 (o_L_call l D cy ad h0 hs ta v0 (10 : Int32) (0 : Int32) (0 : Int32) (0 : Int32) hfl hq1004) mf_L_call ms_L_call lkm_L_144 ⟨(Nat.le_of_ble_eq_true rfl), (Nat.le_of_ble_eq_true rfl), (Nat.le_of_ble_eq_true rfl), (Nat.le_of_ble_eq_true rfl)⟩ [0] _ (by decide : [0].Perm (List.range 1)) rfl (by decide : [0].Perm (List.range 1)) rfl (Nat.le_of_ble_eq_true rfl) rfl ?_
              refine g_cs (c' := 4) (s' := 24) rfl rfl ?_
              refine g_widen (k := 6) (n := 36) (Nat.le_of_ble_eq_true rfl) (Nat.le_of_ble_eq_true rfl) ?_
              have hf := Option.some.inj hf
              subst hf
              exact g_iret X hr dL_act_205
            · have hf := oneg c989 hf
              by_cases c990 : (x1 - x1 / (16 : Int32) * (16 : Int32)) = (6 : Int32)
              · have hf := opos c990 hf
                refine g_tableIn (off := 171) X 206 dL_act_35 (by rw [c990]; decide) (by rw [c990]; decide) (by rw [c990]; decide) (by decide) ?_
                refine g_aload_n X dL_act_206 0 rfl rfl ?_
                refine g_iconst X (2 : Int32) dL_act_207 (by decide) ?_
                refine g_iconst X (3 : Int32) dL_act_208 (by decide) ?_
                refine g_iconst X (0 : Int32) dL_act_209 (by decide) ?_
                refine g_iconst X (0 : Int32) dL_act_210 (by decide) ?_
                obtain ⟨q1001, hq1001, hf⟩ := obind hf
                refine g_callS (gs' := [OB cy h0 hs ta q1001.2]) (rest := []) X dL_act_211 (o_L_call l D cy ad h0 hs ta v0 (2 : Int32) (3 : Int32) (0 : Int32) (0 : Int32) hfl hq1001) mf_L_call ms_L_call lkm_L_144 ⟨(Nat.le_of_ble_eq_true rfl), (Nat.le_of_ble_eq_true rfl), (Nat.le_of_ble_eq_true rfl), (Nat.le_of_ble_eq_true rfl)⟩ [0] _ (by decide : [0].Perm (List.range 1)) rfl (by decide : [0].Perm (List.range 1)) rfl (Nat.le_of_ble_eq_true rfl) rfl ?_
                refine g_cs (c' := 4) (s' := 24) rfl rfl ?_
                refine g_iconst X (2 : Int32) dL_act_214 (by decide) ?_
                refine g_icmp_ge X 222 dL_act_215 (by decide) (fun c1003 => ?_) (fun c1003 => ?_)
                · have hf := opos c1003 hf
                  refine g_aload_n X dL_act_222 0 rfl rfl ?_
                  refine g_bipush X (11 : Int32) dL_act_223 (by decide) ?_
                  refine g_iconst X (0 : Int32) dL_act_225 (by decide) ?_
                  refine g_iconst X (0 : Int32) dL_act_226 (by decide) ?_
                  refine g_iconst X (0 : Int32) dL_act_227 (by decide) ?_
                  obtain ⟨q1002, hq1002, hf⟩ := obind hf
                  refine g_callS (gs' := [OB cy h0 hs ta q1002.2]) (rest := []) X dL_act_228 (o_L_call l D cy ad h0 hs ta q1001.2 (11 : Int32) (0 : Int32) (0 : Int32) (0 : Int32) hfl hq1002) mf_L_call ms_L_call lkm_L_144 ⟨(Nat.le_of_ble_eq_true rfl), (Nat.le_of_ble_eq_true rfl), (Nat.le_of_ble_eq_true rfl), (Nat.le_of_ble_eq_true rfl)⟩ [0] _ (by decide : [0].Perm (List.range 1)) rfl (by decide : [0].Perm (List.range 1)) rfl (Nat.le_of_ble_eq_true rfl) rfl ?_
                  refine g_cs (c' := 6) (s' := 36) rfl rfl ?_
                  have hf := Option.some.inj hf
                  subst hf
                  exact g_iret X hr dL_act_231
                · have hf := oneg c1003 hf
                  refine g_iconst X (-1 : Int32) dL_act_218 (by decide) ?_
                  refine g_goto X 231 dL_act_219 (by decide) ?_
                  refine g_widen (k := 6) (n := 36) (Nat.le_of_ble_eq_true rfl) (Nat.le_of_ble_eq_true rfl) ?_
                  have hf := Option.some.inj hf
                  subst hf
                  exact g_iret X hr dL_act_231
              · have hf := oneg c990 hf
                by_cases c991 : (x1 - x1 / (16 : Int32) * (16 : Int32)) = (7 : Int32)
                · have hf := opos c991 hf
                  refine g_tableIn (off := 197) X 232 dL_act_35 (by rw [c991]; decide) (by rw [c991]; decide) (by rw [c991]; decide) (by decide) ?_
                  refine g_iload_n X dL_act_232 2 rfl rfl ?_
                  refine g_iconst X (2 : Int32) dL_act_233 (by decide) ?_
                  refine g_irem X dL_act_234 (by decide) ?_
                  refine g_if_ne X 254 dL_act_235 (by decide) (fun c1000 => ?_) (fun c1000 => ?_)
                  · have hf := oneg c1000 hf
                    refine g_aload_n X dL_act_254 0 rfl rfl ?_
                    refine g_bipush X (16 : Int32) dL_act_255 (by decide) ?_
                    refine g_iload_n X dL_act_257 2 rfl rfl ?_
                    refine g_iconst X (2 : Int32) dL_act_258 (by decide) ?_
                    refine g_idiv X dL_act_259 (by decide) ?_
                    refine g_iconst X (2 : Int32) dL_act_260 (by decide) ?_
                    refine g_irem X dL_act_261 (by decide) ?_
                    refine g_iconst X (0 : Int32) dL_act_262 (by decide) ?_
                    refine g_iconst X (0 : Int32) dL_act_263 (by decide) ?_
                    obtain ⟨q998, hq998, hf⟩ := obind hf
                    refine g_callS (gs' := [OB cy h0 hs ta q998.2]) (rest := []) X dL_act_264 (o_L_call l D cy ad h0 hs ta v0 (16 : Int32) ((x2 / (2 : Int32)) - (x2 / (2 : Int32)) / (2 : Int32) * (2 : Int32)) (0 : Int32) (0 : Int32) hfl hq998) mf_L_call ms_L_call lkm_L_144 ⟨(Nat.le_of_ble_eq_true rfl), (Nat.le_of_ble_eq_true rfl), (Nat.le_of_ble_eq_true rfl), (Nat.le_of_ble_eq_true rfl)⟩ [0] _ (by decide : [0].Perm (List.range 1)) rfl (by decide : [0].Perm (List.range 1)) rfl (Nat.le_of_ble_eq_true rfl) rfl ?_
                    refine g_cs (c' := 4) (s' := 24) rfl rfl ?_
                    refine g_widen (k := 6) (n := 36) (Nat.le_of_ble_eq_true rfl) (Nat.le_of_ble_eq_true rfl) ?_
                    have hf := Option.some.inj hf
                    subst hf
                    exact g_iret X hr dL_act_267
                  · have hf := opos c1000 hf
                    refine g_aload_n X dL_act_238 0 rfl rfl ?_
                    refine g_bipush X (15 : Int32) dL_act_239 (by decide) ?_
                    refine g_iload_n X dL_act_241 2 rfl rfl ?_
                    refine g_iconst X (2 : Int32) dL_act_242 (by decide) ?_
                    refine g_idiv X dL_act_243 (by decide) ?_
                    refine g_iconst X (2 : Int32) dL_act_244 (by decide) ?_
                    refine g_irem X dL_act_245 (by decide) ?_
                    refine g_iconst X (0 : Int32) dL_act_246 (by decide) ?_
                    refine g_iconst X (0 : Int32) dL_act_247 (by decide) ?_
                    obtain ⟨q999, hq999, hf⟩ := obind hf
                    refine g_callS (gs' := [OB cy h0 hs ta q999.2]) (rest := []) X dL_act_248 (o_L_call l D cy ad h0 hs ta v0 (15 : Int32) ((x2 / (2 : Int32)) - (x2 / (2 : Int32)) / (2 : Int32) * (2 : Int32)) (0 : Int32) (0 : Int32) hfl hq999) mf_L_call ms_L_call lkm_L_144 ⟨(Nat.le_of_ble_eq_true rfl), (Nat.le_of_ble_eq_true rfl), (Nat.le_of_ble_eq_true rfl), (Nat.le_of_ble_eq_true rfl)⟩ [0] _ (by decide : [0].Perm (List.range 1)) rfl (by decide : [0].Perm (List.range 1)) rfl (Nat.le_of_ble_eq_true rfl) rfl ?_
                    refine g_cs (c' := 4) (s' := 24) rfl rfl ?_
                    refine g_goto X 267 dL_act_251 (by decide) ?_
                    refine g_widen (k := 6) (n := 36) (Nat.le_of_ble_eq_true rfl) (Nat.le_of_ble_eq_true rfl) ?_
                    have hf := Option.some.inj hf
                    subst hf
                    exact g_iret X hr dL_act_267
                · have hf := oneg c991 hf
                  by_cases c992 : (x1 - x1 / (16 : Int32) * (16 : Int32)) = (8 : Int32)
                  · have hf := opos c992 hf
                    refine g_tableIn (off := 233) X 268 dL_act_35 (by rw [c992]; decide) (by rw [c992]; decide) (by rw [c992]; decide) (by decide) ?_
                    refine g_aload_n X dL_act_268 0 rfl rfl ?_
                    refine g_bipush X (8 : Int32) dL_act_269 (by decide) ?_
                    refine g_iload X dL_act_271 5 rfl ?_
                    refine g_iload_n X dL_act_273 2 rfl rfl ?_
                    refine g_sipush X (4096 : Int32) dL_act_274 (by decide) ?_
                    refine g_idiv X dL_act_277 (by decide) ?_
                    refine g_iload X dL_act_278 4 rfl ?_
                    refine g_iand X dL_act_280 ?_
                    refine g_iload X dL_act_281 5 rfl ?_
                    refine g_iconst X (-1 : Int32) dL_act_283 (by decide) ?_
                    refine g_ixor X dL_act_284 ?_
                    refine g_iand X dL_act_285 ?_
                    refine g_iconst X (0 : Int32) dL_act_286 (by decide) ?_
                    obtain ⟨q997, hq997, hf⟩ := obind hf
                    refine g_callS (gs' := [OB cy h0 hs ta q997.2]) (rest := []) X dL_act_287 (o_L_call l D cy ad h0 hs ta v0 (8 : Int32) x5 (((x2 / (4096 : Int32)) &&& x4) &&& (x5 ^^^ (-1 : Int32))) (0 : Int32) hfl hq997) mf_L_call ms_L_call lkm_L_144 ⟨(Nat.le_of_ble_eq_true rfl), (Nat.le_of_ble_eq_true rfl), (Nat.le_of_ble_eq_true rfl), (Nat.le_of_ble_eq_true rfl)⟩ [0] _ (by decide : [0].Perm (List.range 1)) rfl (by decide : [0].Perm (List.range 1)) rfl (Nat.le_of_ble_eq_true rfl) rfl ?_
                    refine g_cs (c' := 4) (s' := 24) rfl rfl ?_
                    refine g_widen (k := 6) (n := 36) (Nat.le_of_ble_eq_true rfl) (Nat.le_of_ble_eq_true rfl) ?_
                    have hf := Option.some.inj hf
                    subst hf
                    exact g_iret X hr dL_act_290
                  · have hf := oneg c992 hf
                    by_cases c993 : (x1 - x1 / (16 : Int32) * (16 : Int32)) = (9 : Int32)
                    · have hf := opos c993 hf
                      refine g_tableIn (off := 233) X 268 dL_act_35 (by rw [c993]; decide) (by rw [c993]; decide) (by rw [c993]; decide) (by decide) ?_
                      refine g_aload_n X dL_act_268 0 rfl rfl ?_
                      refine g_bipush X (8 : Int32) dL_act_269 (by decide) ?_
                      refine g_iload X dL_act_271 5 rfl ?_
                      refine g_iload_n X dL_act_273 2 rfl rfl ?_
                      refine g_sipush X (4096 : Int32) dL_act_274 (by decide) ?_
                      refine g_idiv X dL_act_277 (by decide) ?_
                      refine g_iload X dL_act_278 4 rfl ?_
                      refine g_iand X dL_act_280 ?_
                      refine g_iload X dL_act_281 5 rfl ?_
                      refine g_iconst X (-1 : Int32) dL_act_283 (by decide) ?_
                      refine g_ixor X dL_act_284 ?_
                      refine g_iand X dL_act_285 ?_
                      refine g_iconst X (0 : Int32) dL_act_286 (by decide) ?_
                      obtain ⟨q996, hq996, hf⟩ := obind hf
                      refine g_callS (gs' := [OB cy h0 hs ta q996.2]) (rest := []) X dL_act_287 (o_L_call l D cy ad h0 hs ta v0 (8 : Int32) x5 (((x2 / (4096 : Int32)) &&& x4) &&& (x5 ^^^ (-1 : Int32))) (0 : Int32) hfl hq996) mf_L_call ms_L_call lkm_L_144 ⟨(Nat.le_of_ble_eq_true rfl), (Nat.le_of_ble_eq_true rfl), (Nat.le_of_ble_eq_true rfl), (Nat.le_of_ble_eq_true rfl)⟩ [0] _ (by decide : [0].Perm (List.range 1)) rfl (by decide : [0].Perm (List.range 1)) rfl (Nat.le_of_ble_eq_true rfl) rfl ?_
                      refine g_cs (c' := 4) (s' := 24) rfl rfl ?_
                      refine g_widen (k := 6) (n := 36) (Nat.le_of_ble_eq_true rfl) (Nat.le_of_ble_eq_true rfl) ?_
                      have hf := Option.some.inj hf
                      subst hf
                      exact g_iret X hr dL_act_290
                    · have hf := oneg c993 hf
                      by_cases c994 : (x1 - x1 / (16 : Int32) * (16 : Int32)) = (10 : Int32)
                      · have hf := opos c994 hf
                        refine g_tableIn (off := 233) X 268 dL_act_35 (by rw [c994]; decide) (by rw [c994]; decide) (by rw [c994]; decide) (by decide) ?_
                        refine g_aload_n X dL_act_268 0 rfl rfl ?_
                        refine g_bipush X (8 : Int32) dL_act_269 (by decide) ?_
                        refine g_iload X dL_act_271 5 rfl ?_
                        refine g_iload_n X dL_act_273 2 rfl rfl ?_
                        refine g_sipush X (4096 : Int32) dL_act_274 (by decide) ?_
                        refine g_idiv X dL_act_277 (by decide) ?_
                        refine g_iload X dL_act_278 4 rfl ?_
                        refine g_iand X dL_act_280 ?_
                        refine g_iload X dL_act_281 5 rfl ?_
                        refine g_iconst X (-1 : Int32) dL_act_283 (by decide) ?_
                        refine g_ixor X dL_act_284 ?_
                        refine g_iand X dL_act_285 ?_
                        refine g_iconst X (0 : Int32) dL_act_286 (by decide) ?_
                        obtain ⟨q995, hq995, hf⟩ := obind hf
                        refine g_callS (gs' := [OB cy h0 hs ta q995.2]) (rest := []) X dL_act_287 (o_L_call l D cy ad h0 hs ta v0 (8 : Int32) x5 (((x2 / (4096 : Int32)) &&& x4) &&& (x5 ^^^ (-1 : Int32))) (0 : Int32) hfl hq995) mf_L_call ms_L_call lkm_L_144 ⟨(Nat.le_of_ble_eq_true rfl), (Nat.le_of_ble_eq_true rfl), (Nat.le_of_ble_eq_true rfl), (Nat.le_of_ble_eq_true rfl)⟩ [0] _ (by decide : [0].Perm (List.range 1)) rfl (by decide : [0].Perm (List.range 1)) rfl (Nat.le_of_ble_eq_true rfl) rfl ?_
                        refine g_cs (c' := 4) (s' := 24) rfl rfl ?_
                        refine g_widen (k := 6) (n := 36) (Nat.le_of_ble_eq_true rfl) (Nat.le_of_ble_eq_true rfl) ?_
                        have hf := Option.some.inj hf
                        subst hf
                        exact g_iret X hr dL_act_290
                      · have hf := oneg c994 hf
                        refine g_tableOut X 291 dL_act_35 (sw_out (fun k9 h91 h92 h93 => ?_)) (by decide) ?_
                        · have := sw_ne (by decide : ((0 : Int32)).toInt = 0) c984
                          have := sw_ne (by decide : ((1 : Int32)).toInt = 1) c985
                          have := sw_ne (by decide : ((2 : Int32)).toInt = 2) c986
                          have := sw_ne (by decide : ((3 : Int32)).toInt = 3) c987
                          have := sw_ne (by decide : ((4 : Int32)).toInt = 4) c988
                          have := sw_ne (by decide : ((5 : Int32)).toInt = 5) c989
                          have := sw_ne (by decide : ((6 : Int32)).toInt = 6) c990
                          have := sw_ne (by decide : ((7 : Int32)).toInt = 7) c991
                          have := sw_ne (by decide : ((8 : Int32)).toInt = 8) c992
                          have := sw_ne (by decide : ((9 : Int32)).toInt = 9) c993
                          have := sw_ne (by decide : ((10 : Int32)).toInt = 10) c994
                          omega
                        · refine g_aload_n X dL_act_291 0 rfl rfl ?_
                          refine g_bipush X (8 : Int32) dL_act_292 (by decide) ?_
                          refine g_iconst X (1 : Int32) dL_act_294 (by decide) ?_
                          refine g_iload_n X dL_act_295 2 rfl rfl ?_
                          refine g_iload_n X dL_act_296 3 rfl rfl ?_
                          obtain ⟨n981, hf⟩ := oguard hf
                          refine g_irem X dL_act_297 n981 ?_
                          refine g_ishl X dL_act_298 ?_
                          refine g_iconst X (1 : Int32) dL_act_299 (by decide) ?_
                          refine g_iload_n X dL_act_300 2 rfl rfl ?_
                          refine g_iconst X (1 : Int32) dL_act_301 (by decide) ?_
                          refine g_iadd X dL_act_302 ?_
                          refine g_iload_n X dL_act_303 2 rfl rfl ?_
                          refine g_bipush X (16 : Int32) dL_act_304 (by decide) ?_
                          refine g_idiv X dL_act_306 (by decide) ?_
                          refine g_iconst X (2 : Int32) dL_act_307 (by decide) ?_
                          refine g_irem X dL_act_308 (by decide) ?_
                          refine g_iadd X dL_act_309 ?_
                          refine g_iload_n X dL_act_310 3 rfl rfl ?_
                          obtain ⟨n982, hf⟩ := oguard hf
                          refine g_irem X dL_act_311 n982 ?_
                          refine g_ishl X dL_act_312 ?_
                          refine g_iconst X (0 : Int32) dL_act_313 (by decide) ?_
                          obtain ⟨q983, hq983, hf⟩ := obind hf
                          refine g_callS (gs' := [OB cy h0 hs ta q983.2]) (rest := []) X dL_act_314 (o_L_call l D cy ad h0 hs ta v0 (8 : Int32) ((1 : Int32) <<< ((x2 - x2 / x3 * x3) &&& 31)) ((1 : Int32) <<< ((((x2 + (1 : Int32)) + ((x2 / (16 : Int32)) - (x2 / (16 : Int32)) / (2 : Int32) * (2 : Int32))) - ((x2 + (1 : Int32)) + ((x2 / (16 : Int32)) - (x2 / (16 : Int32)) / (2 : Int32) * (2 : Int32))) / x3 * x3) &&& 31)) (0 : Int32) hfl hq983) mf_L_call ms_L_call lkm_L_144 ⟨(Nat.le_of_ble_eq_true rfl), (Nat.le_of_ble_eq_true rfl), (Nat.le_of_ble_eq_true rfl), (Nat.le_of_ble_eq_true rfl)⟩ [0] _ (by decide : [0].Perm (List.range 1)) rfl (by decide : [0].Perm (List.range 1)) rfl (Nat.le_of_ble_eq_true rfl) rfl ?_
                          refine g_cs (c' := 4) (s' := 24) rfl rfl ?_
                          refine g_widen (k := 6) (n := 36) (Nat.le_of_ble_eq_true rfl) (Nat.le_of_ble_eq_true rfl) ?_
                          have hf := Option.some.inj hf
                          subst hf
                          exact g_iret X hr dL_act_317
def f_L_act (v0 : OBv) (p1 : Int32) : Option (Int32 × OBv) :=
  (f_O_call v0 (2 : Int32) (0 : Int32) (0 : Int32) (0 : Int32)).bind (fun q980 => f_L_act_b31 q980.2 p1 (p1 / (16 : Int32)) q980.1 (((1 : Int32) <<< (q980.1 &&& 31)) - (1 : Int32)) (((p1 / (16 : Int32)) - (p1 / (16 : Int32)) / (4096 : Int32) * (4096 : Int32)) &&& (((1 : Int32) <<< (q980.1 &&& 31)) - (1 : Int32))))
set_option maxRecDepth 100000 in
set_option maxHeartbeats 4000000 in
theorem c_L_act (l : Launch) (D : va_G) (cy : Nat → ClassId) (ad : (Nat → Nat) × (Nat → Nat)) (h0 : Nat) (hs : Nat → Nat) (ta : TAd) (v0 : OBv) (p1 : Int32) (hfl : l.stackTraces = false) {q : Int32 × OBv} (hf : f_L_act v0 p1 = some q) : CM l yL_act cL_act 6 (some .int) rmL_act D cy ad [.ref h0, .int p1] [OB cy h0 hs ta v0] (some (.int q.1)) [OB cy h0 hs ta q.2] := by
  refine cm_of (lv0 := [(0, .ref h0), (1, .int p1)]) (by decide) (Nat.le_of_ble_eq_true rfl) rfl ?_
  intro p e s m args below meth c A X hr hn
  have X : gK p s m args meth c A D cy ad cL_act 6 RL := X
  unfold f_L_act at hf
  refine g_iload_n X dL_act_0 1 rfl rfl ?_
  refine g_bipush X (16 : Int32) dL_act_1 (by decide) ?_
  refine g_idiv X dL_act_3 (by decide) ?_
  refine g_istore_n (lv' := [(0, .ref h0), (1, .int p1), (2, .int (p1 / (16 : Int32)))]) X dL_act_4 [1, 2, 0] rfl (Nat.le_of_ble_eq_true rfl) rfl ?_
  refine g_aload_n X dL_act_5 0 rfl rfl ?_
  refine g_iconst X (2 : Int32) dL_act_6 (by decide) ?_
  refine g_iconst X (0 : Int32) dL_act_7 (by decide) ?_
  refine g_iconst X (0 : Int32) dL_act_8 (by decide) ?_
  refine g_iconst X (0 : Int32) dL_act_9 (by decide) ?_
  obtain ⟨q980, hq980, hf⟩ := obind hf
  refine g_callS (gs' := [OB cy h0 hs ta q980.2]) (rest := []) X dL_act_10 (o_L_call l D cy ad h0 hs ta v0 (2 : Int32) (0 : Int32) (0 : Int32) (0 : Int32) hfl hq980) mf_L_call ms_L_call lkm_L_144 ⟨(Nat.le_of_ble_eq_true rfl), (Nat.le_of_ble_eq_true rfl), (Nat.le_of_ble_eq_true rfl), (Nat.le_of_ble_eq_true rfl)⟩ [0] _ (by decide : [0].Perm (List.range 1)) rfl (by decide : [0].Perm (List.range 1)) rfl (Nat.le_of_ble_eq_true rfl) rfl ?_
  refine g_cs (c' := 2) (s' := 12) rfl rfl ?_
  refine g_istore_n (lv' := [(0, .ref h0), (1, .int p1), (2, .int (p1 / (16 : Int32))), (3, .int q980.1)]) X dL_act_13 [1, 2, 3, 0] rfl (Nat.le_of_ble_eq_true rfl) rfl ?_
  refine g_iconst X (1 : Int32) dL_act_14 (by decide) ?_
  refine g_iload_n X dL_act_15 3 rfl rfl ?_
  refine g_ishl X dL_act_16 ?_
  refine g_iconst X (1 : Int32) dL_act_17 (by decide) ?_
  refine g_isub X dL_act_18 ?_
  refine g_istore (lv' := [(0, .ref h0), (1, .int p1), (2, .int (p1 / (16 : Int32))), (3, .int q980.1), (4, .int (((1 : Int32) <<< (q980.1 &&& 31)) - (1 : Int32)))]) X dL_act_19 [1, 2, 3, 4, 0] (Nat.le_of_ble_eq_true rfl) rfl ?_
  refine g_iload_n X dL_act_21 2 rfl rfl ?_
  refine g_sipush X (4096 : Int32) dL_act_22 (by decide) ?_
  refine g_irem X dL_act_25 (by decide) ?_
  refine g_iload X dL_act_26 4 rfl ?_
  refine g_iand X dL_act_28 ?_
  refine g_istore (lv' := [(0, .ref h0), (1, .int p1), (2, .int (p1 / (16 : Int32))), (3, .int q980.1), (4, .int (((1 : Int32) <<< (q980.1 &&& 31)) - (1 : Int32))), (5, .int (((p1 / (16 : Int32)) - (p1 / (16 : Int32)) / (4096 : Int32) * (4096 : Int32)) &&& (((1 : Int32) <<< (q980.1 &&& 31)) - (1 : Int32))))]) X dL_act_29 [1, 2, 3, 4, 5, 0] (Nat.le_of_ble_eq_true rfl) rfl ?_
  exact j_L_act_b31 X hr hfl q980.2 p1 (p1 / (16 : Int32)) q980.1 (((1 : Int32) <<< (q980.1 &&& 31)) - (1 : Int32)) (((p1 / (16 : Int32)) - (p1 / (16 : Int32)) / (4096 : Int32) * (4096 : Int32)) &&& (((1 : Int32) <<< (q980.1 &&& 31)) - (1 : Int32))) hf
abbrev rmL_refuses : Room := ({ frames := 10, cells := 52, slots := 312, locals := 185 } : Room)
def f_L_refuses_b454 (v0 : OBv) (x1 : Int32) (x4 : Int32) (x5 : Int32) (y0 : Int32) (y1 : Int32) : Option (Bool × OBv) :=
  (f_O_call v0 y1 y0 (0 : Int32) (0 : Int32)).bind (fun q1062 => if q1062.1 = (-9999002 : Int32) then (f_O_call q1062.2 (13 : Int32) ((1 : Int32) + (x1 - x1 / (2 : Int32) * (2 : Int32))) ((3 : Int32) + (x1 - x1 / (9 : Int32) * (9 : Int32))) (0 : Int32)).bind (fun q1063 => if q1063.1 = (-9999002 : Int32) then (f_O_call q1063.2 (14 : Int32) x4 (0 : Int32) (0 : Int32)).bind (fun q1064 => if q1064.1 = (-9999002 : Int32) then (f_O_call q1064.2 (14 : Int32) x5 x5 (0 : Int32)).bind (fun q1065 => if q1065.1 = (-9999002 : Int32) then (f_O_call q1065.2 (15 : Int32) ((2 : Int32) + (x1 - x1 / (50 : Int32) * (50 : Int32))) (0 : Int32) (0 : Int32)).bind (fun q1066 => if q1066.1 = (-9999001 : Int32) then (f_O_call q1066.2 (16 : Int32) ((-1 : Int32) - (x1 - x1 / (9 : Int32) * (9 : Int32))) (0 : Int32) (0 : Int32)).bind (fun q1067 => if q1067.1 = (-9999001 : Int32) then (f_O_doScript q1067.2 (0 : Int32) (0 : Int64)).bind (fun q1068 => if q1068.1 = (-9999002 : Int32) then (f_O_doScript q1068.2 (1 : Int32) ((100000 : Int64) + (x1.toInt64))).bind (fun q1069 => if q1069.1 = (-9999002 : Int32) then (f_O_doSimulate q1069.2 (x1.toInt64) ((61 : Int32) + (x1 - x1 / (9 : Int32) * (9 : Int32)))).bind (fun q1070 => if q1070.1 = (-9999002 : Int32) then some (true, q1070.2) else some (false, q1070.2)) else some (false, q1069.2)) else some (false, q1068.2)) else some (false, q1067.2)) else some (false, q1066.2)) else some (false, q1065.2)) else some (false, q1064.2)) else some (false, q1063.2)) else some (false, q1062.2))
set_option maxRecDepth 100000 in
set_option maxHeartbeats 4000000 in
theorem j_L_refuses_b454 {p : Program} {l : Launch} {e : Env} {s : State} {m : MethodId} {args : Array Value} {below : List Frame} {meth : Method} {c : Code} {A : Nat → Prop} {D : va_G} {cy : Nat → ClassId} {ad : (Nat → Nat) × (Nat → Nat)} (X : gK p s m args meth c A D cy ad cL_refuses 6 RL) (hr : meth.sig.returnType = (some .boolean)) (hfl : l.stackTraces = false) {h0 : Nat} {hs : Nat → Nat} {ta : TAd} (v0 : OBv) (x1 : Int32) (x4 : Int32) (x5 : Int32) (y0 : Int32) (y1 : Int32) {q : Bool × OBv} (hf : f_L_refuses_b454 v0 x1 x4 x5 y0 y1 = some q) : GW p l e rmL_refuses s m args below meth c A D 6 37 222 (MQ below (cmQ D cy A (some (.int (b2i q.1))) ([OB cy h0 hs ta q.2] : List va_W).flatten) args s 52 312 A) 454 [(0, .ref h0), (1, .int x1), (4, .int x4), (5, .int x5)] [.int y0, .int y1, .ref h0] [OB cy h0 hs ta v0] := by
  unfold f_L_refuses_b454 at hf
  refine g_iconst X (0 : Int32) dL_refuses_454 (by decide) ?_
  refine g_iconst X (0 : Int32) dL_refuses_455 (by decide) ?_
  obtain ⟨q1062, hq1062, hf⟩ := obind hf
  refine g_callS (gs' := [OB cy h0 hs ta q1062.2]) (rest := []) X dL_refuses_456 (o_L_call l D cy ad h0 hs ta v0 y1 y0 (0 : Int32) (0 : Int32) hfl hq1062) mf_L_call ms_L_call lkm_L_144 ⟨(Nat.le_of_ble_eq_true rfl), (Nat.le_of_ble_eq_true rfl), (Nat.le_of_ble_eq_true rfl), (Nat.le_of_ble_eq_true rfl)⟩ [0] _ (by decide : [0].Perm (List.range 1)) rfl (by decide : [0].Perm (List.range 1)) rfl (Nat.le_of_ble_eq_true rfl) rfl ?_
  refine g_cs (c' := 39) (s' := 234) rfl rfl ?_
  refine g_ldc X lkc_L_22 dL_refuses_459 ?_
  refine g_icmp_ne X 605 dL_refuses_461 (by decide) (fun c1079 => ?_) (fun c1079 => ?_)
  · have hf := oneg c1079 hf
    refine g_widen (k := 52) (n := 312) (Nat.le_of_ble_eq_true rfl) (Nat.le_of_ble_eq_true rfl) ?_
    refine g_iconst X (0 : Int32) dL_refuses_605 (by decide) ?_
    have hf := Option.some.inj hf
    subst hf
    exact g_zret (b := false) X hr dL_refuses_606
  · have hf := opos c1079 hf
    refine g_aload_n X dL_refuses_464 0 rfl rfl ?_
    refine g_bipush X (13 : Int32) dL_refuses_465 (by decide) ?_
    refine g_iconst X (1 : Int32) dL_refuses_467 (by decide) ?_
    refine g_iload_n X dL_refuses_468 1 rfl rfl ?_
    refine g_iconst X (2 : Int32) dL_refuses_469 (by decide) ?_
    refine g_irem X dL_refuses_470 (by decide) ?_
    refine g_iadd X dL_refuses_471 ?_
    refine g_iconst X (3 : Int32) dL_refuses_472 (by decide) ?_
    refine g_iload_n X dL_refuses_473 1 rfl rfl ?_
    refine g_bipush X (9 : Int32) dL_refuses_474 (by decide) ?_
    refine g_irem X dL_refuses_476 (by decide) ?_
    refine g_iadd X dL_refuses_477 ?_
    refine g_iconst X (0 : Int32) dL_refuses_478 (by decide) ?_
    obtain ⟨q1063, hq1063, hf⟩ := obind hf
    refine g_callS (gs' := [OB cy h0 hs ta q1063.2]) (rest := []) X dL_refuses_479 (o_L_call l D cy ad h0 hs ta q1062.2 (13 : Int32) ((1 : Int32) + (x1 - x1 / (2 : Int32) * (2 : Int32))) ((3 : Int32) + (x1 - x1 / (9 : Int32) * (9 : Int32))) (0 : Int32) hfl hq1063) mf_L_call ms_L_call lkm_L_144 ⟨(Nat.le_of_ble_eq_true rfl), (Nat.le_of_ble_eq_true rfl), (Nat.le_of_ble_eq_true rfl), (Nat.le_of_ble_eq_true rfl)⟩ [0] _ (by decide : [0].Perm (List.range 1)) rfl (by decide : [0].Perm (List.range 1)) rfl (Nat.le_of_ble_eq_true rfl) rfl ?_
    refine g_cs (c' := 41) (s' := 246) rfl rfl ?_
    refine g_ldc X lkc_L_22 dL_refuses_482 ?_
    refine g_icmp_ne X 605 dL_refuses_484 (by decide) (fun c1078 => ?_) (fun c1078 => ?_)
    · have hf := oneg c1078 hf
      refine g_widen (k := 52) (n := 312) (Nat.le_of_ble_eq_true rfl) (Nat.le_of_ble_eq_true rfl) ?_
      refine g_iconst X (0 : Int32) dL_refuses_605 (by decide) ?_
      have hf := Option.some.inj hf
      subst hf
      exact g_zret (b := false) X hr dL_refuses_606
    · have hf := opos c1078 hf
      refine g_aload_n X dL_refuses_487 0 rfl rfl ?_
      refine g_bipush X (14 : Int32) dL_refuses_488 (by decide) ?_
      refine g_iload X dL_refuses_490 2 rfl ?_
      refine g_iconst X (0 : Int32) dL_refuses_492 (by decide) ?_
      refine g_iconst X (0 : Int32) dL_refuses_493 (by decide) ?_
      obtain ⟨q1064, hq1064, hf⟩ := obind hf
      refine g_callS (gs' := [OB cy h0 hs ta q1064.2]) (rest := []) X dL_refuses_494 (o_L_call l D cy ad h0 hs ta q1063.2 (14 : Int32) x4 (0 : Int32) (0 : Int32) hfl hq1064) mf_L_call ms_L_call lkm_L_144 ⟨(Nat.le_of_ble_eq_true rfl), (Nat.le_of_ble_eq_true rfl), (Nat.le_of_ble_eq_true rfl), (Nat.le_of_ble_eq_true rfl)⟩ [0] _ (by decide : [0].Perm (List.range 1)) rfl (by decide : [0].Perm (List.range 1)) rfl (Nat.le_of_ble_eq_true rfl) rfl ?_
      refine g_cs (c' := 43) (s' := 258) rfl rfl ?_
      refine g_ldc X lkc_L_22 dL_refuses_497 ?_
      refine g_icmp_ne X 605 dL_refuses_499 (by decide) (fun c1077 => ?_) (fun c1077 => ?_)
      · have hf := oneg c1077 hf
        refine g_widen (k := 52) (n := 312) (Nat.le_of_ble_eq_true rfl) (Nat.le_of_ble_eq_true rfl) ?_
        refine g_iconst X (0 : Int32) dL_refuses_605 (by decide) ?_
        have hf := Option.some.inj hf
        subst hf
        exact g_zret (b := false) X hr dL_refuses_606
      · have hf := opos c1077 hf
        refine g_aload_n X dL_refuses_502 0 rfl rfl ?_
        refine g_bipush X (14 : Int32) dL_refuses_503 (by decide) ?_
        refine g_iload X dL_refuses_505 3 rfl ?_
        refine g_iload X dL_refuses_507 3 rfl ?_
        refine g_iconst X (0 : Int32) dL_refuses_509 (by decide) ?_
        obtain ⟨q1065, hq1065, hf⟩ := obind hf
        refine g_callS (gs' := [OB cy h0 hs ta q1065.2]) (rest := []) X dL_refuses_510 (o_L_call l D cy ad h0 hs ta q1064.2 (14 : Int32) x5 x5 (0 : Int32) hfl hq1065) mf_L_call ms_L_call lkm_L_144 ⟨(Nat.le_of_ble_eq_true rfl), (Nat.le_of_ble_eq_true rfl), (Nat.le_of_ble_eq_true rfl), (Nat.le_of_ble_eq_true rfl)⟩ [0] _ (by decide : [0].Perm (List.range 1)) rfl (by decide : [0].Perm (List.range 1)) rfl (Nat.le_of_ble_eq_true rfl) rfl ?_
        refine g_cs (c' := 45) (s' := 270) rfl rfl ?_
        refine g_ldc X lkc_L_22 dL_refuses_513 ?_
        refine g_icmp_ne X 605 dL_refuses_515 (by decide) (fun c1076 => ?_) (fun c1076 => ?_)
        · have hf := oneg c1076 hf
          refine g_widen (k := 52) (n := 312) (Nat.le_of_ble_eq_true rfl) (Nat.le_of_ble_eq_true rfl) ?_
          refine g_iconst X (0 : Int32) dL_refuses_605 (by decide) ?_
          have hf := Option.some.inj hf
          subst hf
          exact g_zret (b := false) X hr dL_refuses_606
        · have hf := opos c1076 hf
          refine g_aload_n X dL_refuses_518 0 rfl rfl ?_
          refine g_bipush X (15 : Int32) dL_refuses_519 (by decide) ?_
          refine g_iconst X (2 : Int32) dL_refuses_521 (by decide) ?_
          refine g_iload_n X dL_refuses_522 1 rfl rfl ?_
          refine g_bipush X (50 : Int32) dL_refuses_523 (by decide) ?_
          refine g_irem X dL_refuses_525 (by decide) ?_
          refine g_iadd X dL_refuses_526 ?_
          refine g_iconst X (0 : Int32) dL_refuses_527 (by decide) ?_
          refine g_iconst X (0 : Int32) dL_refuses_528 (by decide) ?_
          obtain ⟨q1066, hq1066, hf⟩ := obind hf
          refine g_callS (gs' := [OB cy h0 hs ta q1066.2]) (rest := []) X dL_refuses_529 (o_L_call l D cy ad h0 hs ta q1065.2 (15 : Int32) ((2 : Int32) + (x1 - x1 / (50 : Int32) * (50 : Int32))) (0 : Int32) (0 : Int32) hfl hq1066) mf_L_call ms_L_call lkm_L_144 ⟨(Nat.le_of_ble_eq_true rfl), (Nat.le_of_ble_eq_true rfl), (Nat.le_of_ble_eq_true rfl), (Nat.le_of_ble_eq_true rfl)⟩ [0] _ (by decide : [0].Perm (List.range 1)) rfl (by decide : [0].Perm (List.range 1)) rfl (Nat.le_of_ble_eq_true rfl) rfl ?_
          refine g_cs (c' := 47) (s' := 282) rfl rfl ?_
          refine g_ldc X lkc_L_15 dL_refuses_532 ?_
          refine g_icmp_ne X 605 dL_refuses_534 (by decide) (fun c1075 => ?_) (fun c1075 => ?_)
          · have hf := oneg c1075 hf
            refine g_widen (k := 52) (n := 312) (Nat.le_of_ble_eq_true rfl) (Nat.le_of_ble_eq_true rfl) ?_
            refine g_iconst X (0 : Int32) dL_refuses_605 (by decide) ?_
            have hf := Option.some.inj hf
            subst hf
            exact g_zret (b := false) X hr dL_refuses_606
          · have hf := opos c1075 hf
            refine g_aload_n X dL_refuses_537 0 rfl rfl ?_
            refine g_bipush X (16 : Int32) dL_refuses_538 (by decide) ?_
            refine g_iconst X (-1 : Int32) dL_refuses_540 (by decide) ?_
            refine g_iload_n X dL_refuses_541 1 rfl rfl ?_
            refine g_bipush X (9 : Int32) dL_refuses_542 (by decide) ?_
            refine g_irem X dL_refuses_544 (by decide) ?_
            refine g_isub X dL_refuses_545 ?_
            refine g_iconst X (0 : Int32) dL_refuses_546 (by decide) ?_
            refine g_iconst X (0 : Int32) dL_refuses_547 (by decide) ?_
            obtain ⟨q1067, hq1067, hf⟩ := obind hf
            refine g_callS (gs' := [OB cy h0 hs ta q1067.2]) (rest := []) X dL_refuses_548 (o_L_call l D cy ad h0 hs ta q1066.2 (16 : Int32) ((-1 : Int32) - (x1 - x1 / (9 : Int32) * (9 : Int32))) (0 : Int32) (0 : Int32) hfl hq1067) mf_L_call ms_L_call lkm_L_144 ⟨(Nat.le_of_ble_eq_true rfl), (Nat.le_of_ble_eq_true rfl), (Nat.le_of_ble_eq_true rfl), (Nat.le_of_ble_eq_true rfl)⟩ [0] _ (by decide : [0].Perm (List.range 1)) rfl (by decide : [0].Perm (List.range 1)) rfl (Nat.le_of_ble_eq_true rfl) rfl ?_
            refine g_cs (c' := 49) (s' := 294) rfl rfl ?_
            refine g_ldc X lkc_L_15 dL_refuses_551 ?_
            refine g_icmp_ne X 605 dL_refuses_553 (by decide) (fun c1074 => ?_) (fun c1074 => ?_)
            · have hf := oneg c1074 hf
              refine g_widen (k := 52) (n := 312) (Nat.le_of_ble_eq_true rfl) (Nat.le_of_ble_eq_true rfl) ?_
              refine g_iconst X (0 : Int32) dL_refuses_605 (by decide) ?_
              have hf := Option.some.inj hf
              subst hf
              exact g_zret (b := false) X hr dL_refuses_606
            · have hf := opos c1074 hf
              refine g_aload_n X dL_refuses_556 0 rfl rfl ?_
              refine g_iconst X (0 : Int32) dL_refuses_557 (by decide) ?_
              refine g_lconst X (0 : Int64) dL_refuses_558 (by decide) ?_
              obtain ⟨q1068, hq1068, hf⟩ := obind hf
              refine g_callSW (gs' := [OB cy h0 hs ta q1068.2]) (rest := []) X dL_refuses_559 (o_L_doScript l D cy ad h0 hs ta q1067.2 (0 : Int32) (0 : Int64) hfl hq1068) mfw_L_doScript ms_L_doScript lkm_L_152 ⟨(Nat.le_of_ble_eq_true rfl), (Nat.le_of_ble_eq_true rfl), (Nat.le_of_ble_eq_true rfl), (Nat.le_of_ble_eq_true rfl)⟩ [0] _ (by decide : [0].Perm (List.range 1)) rfl (by decide : [0].Perm (List.range 1)) rfl (Nat.le_of_ble_eq_true rfl) rfl ?_
              refine g_cs (c' := 50) (s' := 300) rfl rfl ?_
              refine g_ldc X lkc_L_22 dL_refuses_562 ?_
              refine g_icmp_ne X 605 dL_refuses_564 (by decide) (fun c1073 => ?_) (fun c1073 => ?_)
              · have hf := oneg c1073 hf
                refine g_widen (k := 52) (n := 312) (Nat.le_of_ble_eq_true rfl) (Nat.le_of_ble_eq_true rfl) ?_
                refine g_iconst X (0 : Int32) dL_refuses_605 (by decide) ?_
                have hf := Option.some.inj hf
                subst hf
                exact g_zret (b := false) X hr dL_refuses_606
              · have hf := opos c1073 hf
                refine g_aload_n X dL_refuses_567 0 rfl rfl ?_
                refine g_iconst X (1 : Int32) dL_refuses_568 (by decide) ?_
                refine g_ldc2 X lkl_L_156 dL_refuses_569 ?_
                refine g_iload_n X dL_refuses_572 1 rfl rfl ?_
                refine g_i2l X dL_refuses_573 ?_
                refine g_ladd X dL_refuses_574 ?_
                obtain ⟨q1069, hq1069, hf⟩ := obind hf
                refine g_callSW (gs' := [OB cy h0 hs ta q1069.2]) (rest := []) X dL_refuses_575 (o_L_doScript l D cy ad h0 hs ta q1068.2 (1 : Int32) ((100000 : Int64) + (x1.toInt64)) hfl hq1069) mfw_L_doScript ms_L_doScript lkm_L_152 ⟨(Nat.le_of_ble_eq_true rfl), (Nat.le_of_ble_eq_true rfl), (Nat.le_of_ble_eq_true rfl), (Nat.le_of_ble_eq_true rfl)⟩ [0] _ (by decide : [0].Perm (List.range 1)) rfl (by decide : [0].Perm (List.range 1)) rfl (Nat.le_of_ble_eq_true rfl) rfl ?_
                refine g_cs (c' := 51) (s' := 306) rfl rfl ?_
                refine g_ldc X lkc_L_22 dL_refuses_578 ?_
                refine g_icmp_ne X 605 dL_refuses_580 (by decide) (fun c1072 => ?_) (fun c1072 => ?_)
                · have hf := oneg c1072 hf
                  refine g_widen (k := 52) (n := 312) (Nat.le_of_ble_eq_true rfl) (Nat.le_of_ble_eq_true rfl) ?_
                  refine g_iconst X (0 : Int32) dL_refuses_605 (by decide) ?_
                  have hf := Option.some.inj hf
                  subst hf
                  exact g_zret (b := false) X hr dL_refuses_606
                · have hf := opos c1072 hf
                  refine g_aload_n X dL_refuses_583 0 rfl rfl ?_
                  refine g_iload_n X dL_refuses_584 1 rfl rfl ?_
                  refine g_i2l X dL_refuses_585 ?_
                  refine g_bipush X (61 : Int32) dL_refuses_586 (by decide) ?_
                  refine g_iload_n X dL_refuses_588 1 rfl rfl ?_
                  refine g_bipush X (9 : Int32) dL_refuses_589 (by decide) ?_
                  refine g_irem X dL_refuses_591 (by decide) ?_
                  refine g_iadd X dL_refuses_592 ?_
                  obtain ⟨q1070, hq1070, hf⟩ := obind hf
                  refine g_callSW (gs' := [OB cy h0 hs ta q1070.2]) (rest := []) X dL_refuses_593 (o_L_doSimulate l D cy ad h0 hs ta q1069.2 (x1.toInt64) ((61 : Int32) + (x1 - x1 / (9 : Int32) * (9 : Int32))) hfl hq1070) mfw_L_doSimulate ms_L_doSimulate lkm_L_158 ⟨(Nat.le_of_ble_eq_true rfl), (Nat.le_of_ble_eq_true rfl), (Nat.le_of_ble_eq_true rfl), (Nat.le_of_ble_eq_true rfl)⟩ [0] _ (by decide : [0].Perm (List.range 1)) rfl (by decide : [0].Perm (List.range 1)) rfl (Nat.le_of_ble_eq_true rfl) rfl ?_
                  refine g_cs (c' := 52) (s' := 312) rfl rfl ?_
                  refine g_ldc X lkc_L_22 dL_refuses_596 ?_
                  refine g_icmp_ne X 605 dL_refuses_598 (by decide) (fun c1071 => ?_) (fun c1071 => ?_)
                  · have hf := oneg c1071 hf
                    refine g_iconst X (0 : Int32) dL_refuses_605 (by decide) ?_
                    have hf := Option.some.inj hf
                    subst hf
                    exact g_zret (b := false) X hr dL_refuses_606
                  · have hf := opos c1071 hf
                    refine g_iconst X (1 : Int32) dL_refuses_601 (by decide) ?_
                    refine g_goto X 606 dL_refuses_602 (by decide) ?_
                    have hf := Option.some.inj hf
                    subst hf
                    exact g_zret (b := true) X hr dL_refuses_606
def f_L_refuses_b299 (v0 : OBv) (x1 : Int32) (x3 : Int32) (x4 : Int32) (x5 : Int32) (y0 : Int32) (y1 : Int32) (y2 : Int32) : Option (Bool × OBv) :=
  (f_O_call v0 y2 y1 y0 (0 : Int32)).bind (fun q1053 => if q1053.1 = (-9999002 : Int32) then (f_O_call q1053.2 (8 : Int32) x4 (0 : Int32) (0 : Int32)).bind (fun q1054 => if q1054.1 = (-9999002 : Int32) then (f_O_call q1054.2 (8 : Int32) (0 : Int32) x4 (0 : Int32)).bind (fun q1055 => if q1055.1 = (-9999002 : Int32) then (f_O_call q1055.2 (8 : Int32) (0 : Int32) (0 : Int32) (0 : Int32)).bind (fun q1056 => if q1056.1 = (-9999002 : Int32) then (f_O_call q1056.2 (8 : Int32) x5 x5 (0 : Int32)).bind (fun q1057 => if q1057.1 = (-9999002 : Int32) then (f_O_accuses q1057.2 x3 true).bind (fun q1058 => if q1058.1 = (-9999001 : Int32) then (f_O_call q1058.2 (9 : Int32) ((3 : Int32) + (x1 - x1 / (9 : Int32) * (9 : Int32))) (0 : Int32) (0 : Int32)).bind (fun q1059 => if q1059.1 = (-9999002 : Int32) then (f_O_call q1059.2 (12 : Int32) (0 : Int32) (0 : Int32) ((3 : Int32) + (x1 - x1 / (9 : Int32) * (9 : Int32)))).bind (fun q1060 => if q1060.1 = (-9999001 : Int32) then (f_O_call q1060.2 (12 : Int32) x5 x5 (x1 - x1 / (3 : Int32) * (3 : Int32))).bind (fun q1061 => if q1061.1 = (-9999002 : Int32) then if (x1 - x1 / (2 : Int32) * (2 : Int32)) = 0 then f_L_refuses_b454 q1061.2 x1 x4 x5 (0 : Int32) (13 : Int32) else f_L_refuses_b454 q1061.2 x1 x4 x5 ((3 : Int32) + (x1 - x1 / (9 : Int32) * (9 : Int32))) (13 : Int32) else some (false, q1061.2)) else some (false, q1060.2)) else some (false, q1059.2)) else some (false, q1058.2)) else some (false, q1057.2)) else some (false, q1056.2)) else some (false, q1055.2)) else some (false, q1054.2)) else some (false, q1053.2))
set_option maxRecDepth 100000 in
set_option maxHeartbeats 4000000 in
theorem j_L_refuses_b299 {p : Program} {l : Launch} {e : Env} {s : State} {m : MethodId} {args : Array Value} {below : List Frame} {meth : Method} {c : Code} {A : Nat → Prop} {D : va_G} {cy : Nat → ClassId} {ad : (Nat → Nat) × (Nat → Nat)} (X : gK p s m args meth c A D cy ad cL_refuses 6 RL) (hr : meth.sig.returnType = (some .boolean)) (hfl : l.stackTraces = false) {h0 : Nat} {hs : Nat → Nat} {ta : TAd} (v0 : OBv) (x1 : Int32) (x3 : Int32) (x4 : Int32) (x5 : Int32) (y0 : Int32) (y1 : Int32) (y2 : Int32) {q : Bool × OBv} (hf : f_L_refuses_b299 v0 x1 x3 x4 x5 y0 y1 y2 = some q) : GW p l e rmL_refuses s m args below meth c A D 6 20 120 (MQ below (cmQ D cy A (some (.int (b2i q.1))) ([OB cy h0 hs ta q.2] : List va_W).flatten) args s 52 312 A) 299 [(0, .ref h0), (1, .int x1), (3, .int x3), (4, .int x4), (5, .int x5)] [.int y0, .int y1, .int y2, .ref h0] [OB cy h0 hs ta v0] := by
  unfold f_L_refuses_b299 at hf
  refine g_iconst X (0 : Int32) dL_refuses_299 (by decide) ?_
  obtain ⟨q1053, hq1053, hf⟩ := obind hf
  refine g_callS (gs' := [OB cy h0 hs ta q1053.2]) (rest := []) X dL_refuses_300 (o_L_call l D cy ad h0 hs ta v0 y2 y1 y0 (0 : Int32) hfl hq1053) mf_L_call ms_L_call lkm_L_144 ⟨(Nat.le_of_ble_eq_true rfl), (Nat.le_of_ble_eq_true rfl), (Nat.le_of_ble_eq_true rfl), (Nat.le_of_ble_eq_true rfl)⟩ [0] _ (by decide : [0].Perm (List.range 1)) rfl (by decide : [0].Perm (List.range 1)) rfl (Nat.le_of_ble_eq_true rfl) rfl ?_
  refine g_cs (c' := 22) (s' := 132) rfl rfl ?_
  refine g_ldc X lkc_L_22 dL_refuses_303 ?_
  refine g_icmp_ne X 605 dL_refuses_305 (by decide) (fun c1089 => ?_) (fun c1089 => ?_)
  · have hf := oneg c1089 hf
    refine g_widen (k := 52) (n := 312) (Nat.le_of_ble_eq_true rfl) (Nat.le_of_ble_eq_true rfl) ?_
    refine g_iconst X (0 : Int32) dL_refuses_605 (by decide) ?_
    have hf := Option.some.inj hf
    subst hf
    exact g_zret (b := false) X hr dL_refuses_606
  · have hf := opos c1089 hf
    refine g_aload_n X dL_refuses_308 0 rfl rfl ?_
    refine g_bipush X (8 : Int32) dL_refuses_309 (by decide) ?_
    refine g_iload X dL_refuses_311 3 rfl ?_
    refine g_iconst X (0 : Int32) dL_refuses_313 (by decide) ?_
    refine g_iconst X (0 : Int32) dL_refuses_314 (by decide) ?_
    obtain ⟨q1054, hq1054, hf⟩ := obind hf
    refine g_callS (gs' := [OB cy h0 hs ta q1054.2]) (rest := []) X dL_refuses_315 (o_L_call l D cy ad h0 hs ta q1053.2 (8 : Int32) x4 (0 : Int32) (0 : Int32) hfl hq1054) mf_L_call ms_L_call lkm_L_144 ⟨(Nat.le_of_ble_eq_true rfl), (Nat.le_of_ble_eq_true rfl), (Nat.le_of_ble_eq_true rfl), (Nat.le_of_ble_eq_true rfl)⟩ [0] _ (by decide : [0].Perm (List.range 1)) rfl (by decide : [0].Perm (List.range 1)) rfl (Nat.le_of_ble_eq_true rfl) rfl ?_
    refine g_cs (c' := 24) (s' := 144) rfl rfl ?_
    refine g_ldc X lkc_L_22 dL_refuses_318 ?_
    refine g_icmp_ne X 605 dL_refuses_320 (by decide) (fun c1088 => ?_) (fun c1088 => ?_)
    · have hf := oneg c1088 hf
      refine g_widen (k := 52) (n := 312) (Nat.le_of_ble_eq_true rfl) (Nat.le_of_ble_eq_true rfl) ?_
      refine g_iconst X (0 : Int32) dL_refuses_605 (by decide) ?_
      have hf := Option.some.inj hf
      subst hf
      exact g_zret (b := false) X hr dL_refuses_606
    · have hf := opos c1088 hf
      refine g_aload_n X dL_refuses_323 0 rfl rfl ?_
      refine g_bipush X (8 : Int32) dL_refuses_324 (by decide) ?_
      refine g_iconst X (0 : Int32) dL_refuses_326 (by decide) ?_
      refine g_iload X dL_refuses_327 3 rfl ?_
      refine g_iconst X (0 : Int32) dL_refuses_329 (by decide) ?_
      obtain ⟨q1055, hq1055, hf⟩ := obind hf
      refine g_callS (gs' := [OB cy h0 hs ta q1055.2]) (rest := []) X dL_refuses_330 (o_L_call l D cy ad h0 hs ta q1054.2 (8 : Int32) (0 : Int32) x4 (0 : Int32) hfl hq1055) mf_L_call ms_L_call lkm_L_144 ⟨(Nat.le_of_ble_eq_true rfl), (Nat.le_of_ble_eq_true rfl), (Nat.le_of_ble_eq_true rfl), (Nat.le_of_ble_eq_true rfl)⟩ [0] _ (by decide : [0].Perm (List.range 1)) rfl (by decide : [0].Perm (List.range 1)) rfl (Nat.le_of_ble_eq_true rfl) rfl ?_
      refine g_cs (c' := 26) (s' := 156) rfl rfl ?_
      refine g_ldc X lkc_L_22 dL_refuses_333 ?_
      refine g_icmp_ne X 605 dL_refuses_335 (by decide) (fun c1087 => ?_) (fun c1087 => ?_)
      · have hf := oneg c1087 hf
        refine g_widen (k := 52) (n := 312) (Nat.le_of_ble_eq_true rfl) (Nat.le_of_ble_eq_true rfl) ?_
        refine g_iconst X (0 : Int32) dL_refuses_605 (by decide) ?_
        have hf := Option.some.inj hf
        subst hf
        exact g_zret (b := false) X hr dL_refuses_606
      · have hf := opos c1087 hf
        refine g_aload_n X dL_refuses_338 0 rfl rfl ?_
        refine g_bipush X (8 : Int32) dL_refuses_339 (by decide) ?_
        refine g_iconst X (0 : Int32) dL_refuses_341 (by decide) ?_
        refine g_iconst X (0 : Int32) dL_refuses_342 (by decide) ?_
        refine g_iconst X (0 : Int32) dL_refuses_343 (by decide) ?_
        obtain ⟨q1056, hq1056, hf⟩ := obind hf
        refine g_callS (gs' := [OB cy h0 hs ta q1056.2]) (rest := []) X dL_refuses_344 (o_L_call l D cy ad h0 hs ta q1055.2 (8 : Int32) (0 : Int32) (0 : Int32) (0 : Int32) hfl hq1056) mf_L_call ms_L_call lkm_L_144 ⟨(Nat.le_of_ble_eq_true rfl), (Nat.le_of_ble_eq_true rfl), (Nat.le_of_ble_eq_true rfl), (Nat.le_of_ble_eq_true rfl)⟩ [0] _ (by decide : [0].Perm (List.range 1)) rfl (by decide : [0].Perm (List.range 1)) rfl (Nat.le_of_ble_eq_true rfl) rfl ?_
        refine g_cs (c' := 28) (s' := 168) rfl rfl ?_
        refine g_ldc X lkc_L_22 dL_refuses_347 ?_
        refine g_icmp_ne X 605 dL_refuses_349 (by decide) (fun c1086 => ?_) (fun c1086 => ?_)
        · have hf := oneg c1086 hf
          refine g_widen (k := 52) (n := 312) (Nat.le_of_ble_eq_true rfl) (Nat.le_of_ble_eq_true rfl) ?_
          refine g_iconst X (0 : Int32) dL_refuses_605 (by decide) ?_
          have hf := Option.some.inj hf
          subst hf
          exact g_zret (b := false) X hr dL_refuses_606
        · have hf := opos c1086 hf
          refine g_aload_n X dL_refuses_352 0 rfl rfl ?_
          refine g_bipush X (8 : Int32) dL_refuses_353 (by decide) ?_
          refine g_iload X dL_refuses_355 4 rfl ?_
          refine g_iload X dL_refuses_357 4 rfl ?_
          refine g_iconst X (0 : Int32) dL_refuses_359 (by decide) ?_
          obtain ⟨q1057, hq1057, hf⟩ := obind hf
          refine g_callS (gs' := [OB cy h0 hs ta q1057.2]) (rest := []) X dL_refuses_360 (o_L_call l D cy ad h0 hs ta q1056.2 (8 : Int32) x5 x5 (0 : Int32) hfl hq1057) mf_L_call ms_L_call lkm_L_144 ⟨(Nat.le_of_ble_eq_true rfl), (Nat.le_of_ble_eq_true rfl), (Nat.le_of_ble_eq_true rfl), (Nat.le_of_ble_eq_true rfl)⟩ [0] _ (by decide : [0].Perm (List.range 1)) rfl (by decide : [0].Perm (List.range 1)) rfl (Nat.le_of_ble_eq_true rfl) rfl ?_
          refine g_cs (c' := 30) (s' := 180) rfl rfl ?_
          refine g_ldc X lkc_L_22 dL_refuses_363 ?_
          refine g_icmp_ne X 605 dL_refuses_365 (by decide) (fun c1085 => ?_) (fun c1085 => ?_)
          · have hf := oneg c1085 hf
            refine g_widen (k := 52) (n := 312) (Nat.le_of_ble_eq_true rfl) (Nat.le_of_ble_eq_true rfl) ?_
            refine g_iconst X (0 : Int32) dL_refuses_605 (by decide) ?_
            have hf := Option.some.inj hf
            subst hf
            exact g_zret (b := false) X hr dL_refuses_606
          · have hf := opos c1085 hf
            refine g_aload_n X dL_refuses_368 0 rfl rfl ?_
            refine g_iload_n X dL_refuses_369 2 rfl rfl ?_
            refine g_iconst X (1 : Int32) dL_refuses_370 (by decide) ?_
            obtain ⟨q1058, hq1058, hf⟩ := obind hf
            refine g_callSW (gs' := [OB cy h0 hs ta q1058.2]) (rest := []) X dL_refuses_371 (o_L_accuses l D cy ad h0 hs ta q1057.2 x3 true hfl hq1058) mfw_L_accuses ms_L_accuses lkm_L_148 ⟨(Nat.le_of_ble_eq_true rfl), (Nat.le_of_ble_eq_true rfl), (Nat.le_of_ble_eq_true rfl), (Nat.le_of_ble_eq_true rfl)⟩ [0] _ (by decide : [0].Perm (List.range 1)) rfl (by decide : [0].Perm (List.range 1)) rfl (Nat.le_of_ble_eq_true rfl) rfl ?_
            refine g_cs (c' := 31) (s' := 186) rfl rfl ?_
            refine g_ldc X lkc_L_15 dL_refuses_374 ?_
            refine g_icmp_ne X 605 dL_refuses_376 (by decide) (fun c1084 => ?_) (fun c1084 => ?_)
            · have hf := oneg c1084 hf
              refine g_widen (k := 52) (n := 312) (Nat.le_of_ble_eq_true rfl) (Nat.le_of_ble_eq_true rfl) ?_
              refine g_iconst X (0 : Int32) dL_refuses_605 (by decide) ?_
              have hf := Option.some.inj hf
              subst hf
              exact g_zret (b := false) X hr dL_refuses_606
            · have hf := opos c1084 hf
              refine g_aload_n X dL_refuses_379 0 rfl rfl ?_
              refine g_bipush X (9 : Int32) dL_refuses_380 (by decide) ?_
              refine g_iconst X (3 : Int32) dL_refuses_382 (by decide) ?_
              refine g_iload_n X dL_refuses_383 1 rfl rfl ?_
              refine g_bipush X (9 : Int32) dL_refuses_384 (by decide) ?_
              refine g_irem X dL_refuses_386 (by decide) ?_
              refine g_iadd X dL_refuses_387 ?_
              refine g_iconst X (0 : Int32) dL_refuses_388 (by decide) ?_
              refine g_iconst X (0 : Int32) dL_refuses_389 (by decide) ?_
              obtain ⟨q1059, hq1059, hf⟩ := obind hf
              refine g_callS (gs' := [OB cy h0 hs ta q1059.2]) (rest := []) X dL_refuses_390 (o_L_call l D cy ad h0 hs ta q1058.2 (9 : Int32) ((3 : Int32) + (x1 - x1 / (9 : Int32) * (9 : Int32))) (0 : Int32) (0 : Int32) hfl hq1059) mf_L_call ms_L_call lkm_L_144 ⟨(Nat.le_of_ble_eq_true rfl), (Nat.le_of_ble_eq_true rfl), (Nat.le_of_ble_eq_true rfl), (Nat.le_of_ble_eq_true rfl)⟩ [0] _ (by decide : [0].Perm (List.range 1)) rfl (by decide : [0].Perm (List.range 1)) rfl (Nat.le_of_ble_eq_true rfl) rfl ?_
              refine g_cs (c' := 33) (s' := 198) rfl rfl ?_
              refine g_ldc X lkc_L_22 dL_refuses_393 ?_
              refine g_icmp_ne X 605 dL_refuses_395 (by decide) (fun c1083 => ?_) (fun c1083 => ?_)
              · have hf := oneg c1083 hf
                refine g_widen (k := 52) (n := 312) (Nat.le_of_ble_eq_true rfl) (Nat.le_of_ble_eq_true rfl) ?_
                refine g_iconst X (0 : Int32) dL_refuses_605 (by decide) ?_
                have hf := Option.some.inj hf
                subst hf
                exact g_zret (b := false) X hr dL_refuses_606
              · have hf := opos c1083 hf
                refine g_aload_n X dL_refuses_398 0 rfl rfl ?_
                refine g_bipush X (12 : Int32) dL_refuses_399 (by decide) ?_
                refine g_iconst X (0 : Int32) dL_refuses_401 (by decide) ?_
                refine g_iconst X (0 : Int32) dL_refuses_402 (by decide) ?_
                refine g_iconst X (3 : Int32) dL_refuses_403 (by decide) ?_
                refine g_iload_n X dL_refuses_404 1 rfl rfl ?_
                refine g_bipush X (9 : Int32) dL_refuses_405 (by decide) ?_
                refine g_irem X dL_refuses_407 (by decide) ?_
                refine g_iadd X dL_refuses_408 ?_
                obtain ⟨q1060, hq1060, hf⟩ := obind hf
                refine g_callS (gs' := [OB cy h0 hs ta q1060.2]) (rest := []) X dL_refuses_409 (o_L_call l D cy ad h0 hs ta q1059.2 (12 : Int32) (0 : Int32) (0 : Int32) ((3 : Int32) + (x1 - x1 / (9 : Int32) * (9 : Int32))) hfl hq1060) mf_L_call ms_L_call lkm_L_144 ⟨(Nat.le_of_ble_eq_true rfl), (Nat.le_of_ble_eq_true rfl), (Nat.le_of_ble_eq_true rfl), (Nat.le_of_ble_eq_true rfl)⟩ [0] _ (by decide : [0].Perm (List.range 1)) rfl (by decide : [0].Perm (List.range 1)) rfl (Nat.le_of_ble_eq_true rfl) rfl ?_
                refine g_cs (c' := 35) (s' := 210) rfl rfl ?_
                refine g_ldc X lkc_L_15 dL_refuses_412 ?_
                refine g_icmp_ne X 605 dL_refuses_414 (by decide) (fun c1082 => ?_) (fun c1082 => ?_)
                · have hf := oneg c1082 hf
                  refine g_widen (k := 52) (n := 312) (Nat.le_of_ble_eq_true rfl) (Nat.le_of_ble_eq_true rfl) ?_
                  refine g_iconst X (0 : Int32) dL_refuses_605 (by decide) ?_
                  have hf := Option.some.inj hf
                  subst hf
                  exact g_zret (b := false) X hr dL_refuses_606
                · have hf := opos c1082 hf
                  refine g_aload_n X dL_refuses_417 0 rfl rfl ?_
                  refine g_bipush X (12 : Int32) dL_refuses_418 (by decide) ?_
                  refine g_iload X dL_refuses_420 4 rfl ?_
                  refine g_iload X dL_refuses_422 4 rfl ?_
                  refine g_iload_n X dL_refuses_424 1 rfl rfl ?_
                  refine g_iconst X (3 : Int32) dL_refuses_425 (by decide) ?_
                  refine g_irem X dL_refuses_426 (by decide) ?_
                  obtain ⟨q1061, hq1061, hf⟩ := obind hf
                  refine g_callS (gs' := [OB cy h0 hs ta q1061.2]) (rest := []) X dL_refuses_427 (o_L_call l D cy ad h0 hs ta q1060.2 (12 : Int32) x5 x5 (x1 - x1 / (3 : Int32) * (3 : Int32)) hfl hq1061) mf_L_call ms_L_call lkm_L_144 ⟨(Nat.le_of_ble_eq_true rfl), (Nat.le_of_ble_eq_true rfl), (Nat.le_of_ble_eq_true rfl), (Nat.le_of_ble_eq_true rfl)⟩ [0] _ (by decide : [0].Perm (List.range 1)) rfl (by decide : [0].Perm (List.range 1)) rfl (Nat.le_of_ble_eq_true rfl) rfl ?_
                  refine g_cs (c' := 37) (s' := 222) rfl rfl ?_
                  refine g_ldc X lkc_L_22 dL_refuses_430 ?_
                  refine g_icmp_ne X 605 dL_refuses_432 (by decide) (fun c1081 => ?_) (fun c1081 => ?_)
                  · have hf := oneg c1081 hf
                    refine g_widen (k := 52) (n := 312) (Nat.le_of_ble_eq_true rfl) (Nat.le_of_ble_eq_true rfl) ?_
                    refine g_iconst X (0 : Int32) dL_refuses_605 (by decide) ?_
                    have hf := Option.some.inj hf
                    subst hf
                    exact g_zret (b := false) X hr dL_refuses_606
                  · have hf := opos c1081 hf
                    refine g_aload_n X dL_refuses_435 0 rfl rfl ?_
                    refine g_bipush X (13 : Int32) dL_refuses_436 (by decide) ?_
                    refine g_iload_n X dL_refuses_438 1 rfl rfl ?_
                    refine g_iconst X (2 : Int32) dL_refuses_439 (by decide) ?_
                    refine g_irem X dL_refuses_440 (by decide) ?_
                    refine g_if_ne X 448 dL_refuses_441 (by decide) (fun c1080 => ?_) (fun c1080 => ?_)
                    · have hf := oneg c1080 hf
                      refine g_iconst X (3 : Int32) dL_refuses_448 (by decide) ?_
                      refine g_iload_n X dL_refuses_449 1 rfl rfl ?_
                      refine g_bipush X (9 : Int32) dL_refuses_450 (by decide) ?_
                      refine g_irem X dL_refuses_452 (by decide) ?_
                      refine g_iadd X dL_refuses_453 ?_
                      refine g_sub [0, 1, 3, 4] (lv' := [(0, .ref h0), (1, .int x1), (4, .int x4), (5, .int x5)]) rfl ?_
                      exact j_L_refuses_b454 X hr hfl q1061.2 x1 x4 x5 ((3 : Int32) + (x1 - x1 / (9 : Int32) * (9 : Int32))) (13 : Int32) hf
                    · have hf := opos c1080 hf
                      refine g_iconst X (0 : Int32) dL_refuses_444 (by decide) ?_
                      refine g_goto X 454 dL_refuses_445 (by decide) ?_
                      refine g_sub [0, 1, 3, 4] (lv' := [(0, .ref h0), (1, .int x1), (4, .int x4), (5, .int x5)]) rfl ?_
                      exact j_L_refuses_b454 X hr hfl q1061.2 x1 x4 x5 (0 : Int32) (13 : Int32) hf
def f_L_refuses_b267 (v0 : OBv) (x1 : Int32) (x3 : Int32) (x4 : Int32) (x5 : Int32) (y0 : Int32) (y1 : Int32) : Option (Bool × OBv) :=
  (f_O_call v0 y1 y0 (5 : Int32) (0 : Int32)).bind (fun q1052 => if q1052.1 = (-9999002 : Int32) then if (x1 - x1 / (2 : Int32) * (2 : Int32)) = 0 then f_L_refuses_b299 q1052.2 x1 x3 x4 x5 (-x1) (5 : Int32) (7 : Int32) else f_L_refuses_b299 q1052.2 x1 x3 x4 x5 ((21 : Int32) + (x1 - x1 / (9 : Int32) * (9 : Int32))) (5 : Int32) (7 : Int32) else some (false, q1052.2))
set_option maxRecDepth 100000 in
set_option maxHeartbeats 4000000 in
theorem j_L_refuses_b267 {p : Program} {l : Launch} {e : Env} {s : State} {m : MethodId} {args : Array Value} {below : List Frame} {meth : Method} {c : Code} {A : Nat → Prop} {D : va_G} {cy : Nat → ClassId} {ad : (Nat → Nat) × (Nat → Nat)} (X : gK p s m args meth c A D cy ad cL_refuses 6 RL) (hr : meth.sig.returnType = (some .boolean)) (hfl : l.stackTraces = false) {h0 : Nat} {hs : Nat → Nat} {ta : TAd} (v0 : OBv) (x1 : Int32) (x3 : Int32) (x4 : Int32) (x5 : Int32) (y0 : Int32) (y1 : Int32) {q : Bool × OBv} (hf : f_L_refuses_b267 v0 x1 x3 x4 x5 y0 y1 = some q) : GW p l e rmL_refuses s m args below meth c A D 6 18 108 (MQ below (cmQ D cy A (some (.int (b2i q.1))) ([OB cy h0 hs ta q.2] : List va_W).flatten) args s 52 312 A) 267 [(0, .ref h0), (1, .int x1), (3, .int x3), (4, .int x4), (5, .int x5)] [.int y0, .int y1, .ref h0] [OB cy h0 hs ta v0] := by
  unfold f_L_refuses_b267 at hf
  refine g_iconst X (5 : Int32) dL_refuses_267 (by decide) ?_
  refine g_iconst X (0 : Int32) dL_refuses_268 (by decide) ?_
  obtain ⟨q1052, hq1052, hf⟩ := obind hf
  refine g_callS (gs' := [OB cy h0 hs ta q1052.2]) (rest := []) X dL_refuses_269 (o_L_call l D cy ad h0 hs ta v0 y1 y0 (5 : Int32) (0 : Int32) hfl hq1052) mf_L_call ms_L_call lkm_L_144 ⟨(Nat.le_of_ble_eq_true rfl), (Nat.le_of_ble_eq_true rfl), (Nat.le_of_ble_eq_true rfl), (Nat.le_of_ble_eq_true rfl)⟩ [0] _ (by decide : [0].Perm (List.range 1)) rfl (by decide : [0].Perm (List.range 1)) rfl (Nat.le_of_ble_eq_true rfl) rfl ?_
  refine g_cs (c' := 20) (s' := 120) rfl rfl ?_
  refine g_ldc X lkc_L_22 dL_refuses_272 ?_
  refine g_icmp_ne X 605 dL_refuses_274 (by decide) (fun c1091 => ?_) (fun c1091 => ?_)
  · have hf := oneg c1091 hf
    refine g_widen (k := 52) (n := 312) (Nat.le_of_ble_eq_true rfl) (Nat.le_of_ble_eq_true rfl) ?_
    refine g_iconst X (0 : Int32) dL_refuses_605 (by decide) ?_
    have hf := Option.some.inj hf
    subst hf
    exact g_zret (b := false) X hr dL_refuses_606
  · have hf := opos c1091 hf
    refine g_aload_n X dL_refuses_277 0 rfl rfl ?_
    refine g_bipush X (7 : Int32) dL_refuses_278 (by decide) ?_
    refine g_iconst X (5 : Int32) dL_refuses_280 (by decide) ?_
    refine g_iload_n X dL_refuses_281 1 rfl rfl ?_
    refine g_iconst X (2 : Int32) dL_refuses_282 (by decide) ?_
    refine g_irem X dL_refuses_283 (by decide) ?_
    refine g_if_ne X 292 dL_refuses_284 (by decide) (fun c1090 => ?_) (fun c1090 => ?_)
    · have hf := oneg c1090 hf
      refine g_bipush X (21 : Int32) dL_refuses_292 (by decide) ?_
      refine g_iload_n X dL_refuses_294 1 rfl rfl ?_
      refine g_bipush X (9 : Int32) dL_refuses_295 (by decide) ?_
      refine g_irem X dL_refuses_297 (by decide) ?_
      refine g_iadd X dL_refuses_298 ?_
      exact j_L_refuses_b299 X hr hfl q1052.2 x1 x3 x4 x5 ((21 : Int32) + (x1 - x1 / (9 : Int32) * (9 : Int32))) (5 : Int32) (7 : Int32) hf
    · have hf := opos c1090 hf
      refine g_iload_n X dL_refuses_287 1 rfl rfl ?_
      refine g_ineg X dL_refuses_288 ?_
      refine g_goto X 299 dL_refuses_289 (by decide) ?_
      exact j_L_refuses_b299 X hr hfl q1052.2 x1 x3 x4 x5 (-x1) (5 : Int32) (7 : Int32) hf
def f_L_refuses_b238 (v0 : OBv) (x1 : Int32) (x3 : Int32) (x4 : Int32) (x5 : Int32) (y0 : Int32) (y1 : Int32) (y2 : Int32) : Option (Bool × OBv) :=
  (f_O_call v0 y2 y1 y0 (0 : Int32)).bind (fun q1051 => if q1051.1 = (-9999001 : Int32) then if (x1 - x1 / (2 : Int32) * (2 : Int32)) = 0 then f_L_refuses_b267 q1051.2 x1 x3 x4 x5 (0 : Int32) (7 : Int32) else f_L_refuses_b267 q1051.2 x1 x3 x4 x5 ((21 : Int32) + (x1 - x1 / (9 : Int32) * (9 : Int32))) (7 : Int32) else some (false, q1051.2))
set_option maxRecDepth 100000 in
set_option maxHeartbeats 4000000 in
theorem j_L_refuses_b238 {p : Program} {l : Launch} {e : Env} {s : State} {m : MethodId} {args : Array Value} {below : List Frame} {meth : Method} {c : Code} {A : Nat → Prop} {D : va_G} {cy : Nat → ClassId} {ad : (Nat → Nat) × (Nat → Nat)} (X : gK p s m args meth c A D cy ad cL_refuses 6 RL) (hr : meth.sig.returnType = (some .boolean)) (hfl : l.stackTraces = false) {h0 : Nat} {hs : Nat → Nat} {ta : TAd} (v0 : OBv) (x1 : Int32) (x3 : Int32) (x4 : Int32) (x5 : Int32) (y0 : Int32) (y1 : Int32) (y2 : Int32) {q : Bool × OBv} (hf : f_L_refuses_b238 v0 x1 x3 x4 x5 y0 y1 y2 = some q) : GW p l e rmL_refuses s m args below meth c A D 6 16 96 (MQ below (cmQ D cy A (some (.int (b2i q.1))) ([OB cy h0 hs ta q.2] : List va_W).flatten) args s 52 312 A) 238 [(0, .ref h0), (1, .int x1), (3, .int x3), (4, .int x4), (5, .int x5)] [.int y0, .int y1, .int y2, .ref h0] [OB cy h0 hs ta v0] := by
  unfold f_L_refuses_b238 at hf
  refine g_iconst X (0 : Int32) dL_refuses_238 (by decide) ?_
  obtain ⟨q1051, hq1051, hf⟩ := obind hf
  refine g_callS (gs' := [OB cy h0 hs ta q1051.2]) (rest := []) X dL_refuses_239 (o_L_call l D cy ad h0 hs ta v0 y2 y1 y0 (0 : Int32) hfl hq1051) mf_L_call ms_L_call lkm_L_144 ⟨(Nat.le_of_ble_eq_true rfl), (Nat.le_of_ble_eq_true rfl), (Nat.le_of_ble_eq_true rfl), (Nat.le_of_ble_eq_true rfl)⟩ [0] _ (by decide : [0].Perm (List.range 1)) rfl (by decide : [0].Perm (List.range 1)) rfl (Nat.le_of_ble_eq_true rfl) rfl ?_
  refine g_cs (c' := 18) (s' := 108) rfl rfl ?_
  refine g_ldc X lkc_L_15 dL_refuses_242 ?_
  refine g_icmp_ne X 605 dL_refuses_244 (by decide) (fun c1093 => ?_) (fun c1093 => ?_)
  · have hf := oneg c1093 hf
    refine g_widen (k := 52) (n := 312) (Nat.le_of_ble_eq_true rfl) (Nat.le_of_ble_eq_true rfl) ?_
    refine g_iconst X (0 : Int32) dL_refuses_605 (by decide) ?_
    have hf := Option.some.inj hf
    subst hf
    exact g_zret (b := false) X hr dL_refuses_606
  · have hf := opos c1093 hf
    refine g_aload_n X dL_refuses_247 0 rfl rfl ?_
    refine g_bipush X (7 : Int32) dL_refuses_248 (by decide) ?_
    refine g_iload_n X dL_refuses_250 1 rfl rfl ?_
    refine g_iconst X (2 : Int32) dL_refuses_251 (by decide) ?_
    refine g_irem X dL_refuses_252 (by decide) ?_
    refine g_if_ne X 260 dL_refuses_253 (by decide) (fun c1092 => ?_) (fun c1092 => ?_)
    · have hf := oneg c1092 hf
      refine g_bipush X (21 : Int32) dL_refuses_260 (by decide) ?_
      refine g_iload_n X dL_refuses_262 1 rfl rfl ?_
      refine g_bipush X (9 : Int32) dL_refuses_263 (by decide) ?_
      refine g_irem X dL_refuses_265 (by decide) ?_
      refine g_iadd X dL_refuses_266 ?_
      exact j_L_refuses_b267 X hr hfl q1051.2 x1 x3 x4 x5 ((21 : Int32) + (x1 - x1 / (9 : Int32) * (9 : Int32))) (7 : Int32) hf
    · have hf := opos c1092 hf
      refine g_iconst X (0 : Int32) dL_refuses_256 (by decide) ?_
      refine g_goto X 267 dL_refuses_257 (by decide) ?_
      exact j_L_refuses_b267 X hr hfl q1051.2 x1 x3 x4 x5 (0 : Int32) (7 : Int32) hf
def f_L_refuses_b203 (v0 : OBv) (x1 : Int32) (x3 : Int32) (x4 : Int32) (x5 : Int32) (y0 : Int32) (y1 : Int32) : Option (Bool × OBv) :=
  (f_O_call v0 y1 y0 (-1 : Int32) (0 : Int32)).bind (fun q1050 => if q1050.1 = (-9999002 : Int32) then if (x1 - x1 / (2 : Int32) * (2 : Int32)) = 0 then f_L_refuses_b238 q1050.2 x1 x3 x4 x5 ((-1 : Int32) - x1) ((3 : Int32) + (x1 - x1 / (10 : Int32) * (10 : Int32))) (6 : Int32) else f_L_refuses_b238 q1050.2 x1 x3 x4 x5 ((75 : Int32) + x1) ((3 : Int32) + (x1 - x1 / (10 : Int32) * (10 : Int32))) (6 : Int32) else some (false, q1050.2))
set_option maxRecDepth 100000 in
set_option maxHeartbeats 4000000 in
theorem j_L_refuses_b203 {p : Program} {l : Launch} {e : Env} {s : State} {m : MethodId} {args : Array Value} {below : List Frame} {meth : Method} {c : Code} {A : Nat → Prop} {D : va_G} {cy : Nat → ClassId} {ad : (Nat → Nat) × (Nat → Nat)} (X : gK p s m args meth c A D cy ad cL_refuses 6 RL) (hr : meth.sig.returnType = (some .boolean)) (hfl : l.stackTraces = false) {h0 : Nat} {hs : Nat → Nat} {ta : TAd} (v0 : OBv) (x1 : Int32) (x3 : Int32) (x4 : Int32) (x5 : Int32) (y0 : Int32) (y1 : Int32) {q : Bool × OBv} (hf : f_L_refuses_b203 v0 x1 x3 x4 x5 y0 y1 = some q) : GW p l e rmL_refuses s m args below meth c A D 6 14 84 (MQ below (cmQ D cy A (some (.int (b2i q.1))) ([OB cy h0 hs ta q.2] : List va_W).flatten) args s 52 312 A) 203 [(0, .ref h0), (1, .int x1), (3, .int x3), (4, .int x4), (5, .int x5)] [.int y0, .int y1, .ref h0] [OB cy h0 hs ta v0] := by
  unfold f_L_refuses_b203 at hf
  refine g_iconst X (-1 : Int32) dL_refuses_203 (by decide) ?_
  refine g_iconst X (0 : Int32) dL_refuses_204 (by decide) ?_
  obtain ⟨q1050, hq1050, hf⟩ := obind hf
  refine g_callS (gs' := [OB cy h0 hs ta q1050.2]) (rest := []) X dL_refuses_205 (o_L_call l D cy ad h0 hs ta v0 y1 y0 (-1 : Int32) (0 : Int32) hfl hq1050) mf_L_call ms_L_call lkm_L_144 ⟨(Nat.le_of_ble_eq_true rfl), (Nat.le_of_ble_eq_true rfl), (Nat.le_of_ble_eq_true rfl), (Nat.le_of_ble_eq_true rfl)⟩ [0] _ (by decide : [0].Perm (List.range 1)) rfl (by decide : [0].Perm (List.range 1)) rfl (Nat.le_of_ble_eq_true rfl) rfl ?_
  refine g_cs (c' := 16) (s' := 96) rfl rfl ?_
  refine g_ldc X lkc_L_22 dL_refuses_208 ?_
  refine g_icmp_ne X 605 dL_refuses_210 (by decide) (fun c1095 => ?_) (fun c1095 => ?_)
  · have hf := oneg c1095 hf
    refine g_widen (k := 52) (n := 312) (Nat.le_of_ble_eq_true rfl) (Nat.le_of_ble_eq_true rfl) ?_
    refine g_iconst X (0 : Int32) dL_refuses_605 (by decide) ?_
    have hf := Option.some.inj hf
    subst hf
    exact g_zret (b := false) X hr dL_refuses_606
  · have hf := opos c1095 hf
    refine g_aload_n X dL_refuses_213 0 rfl rfl ?_
    refine g_bipush X (6 : Int32) dL_refuses_214 (by decide) ?_
    refine g_iconst X (3 : Int32) dL_refuses_216 (by decide) ?_
    refine g_iload_n X dL_refuses_217 1 rfl rfl ?_
    refine g_bipush X (10 : Int32) dL_refuses_218 (by decide) ?_
    refine g_irem X dL_refuses_220 (by decide) ?_
    refine g_iadd X dL_refuses_221 ?_
    refine g_iload_n X dL_refuses_222 1 rfl rfl ?_
    refine g_iconst X (2 : Int32) dL_refuses_223 (by decide) ?_
    refine g_irem X dL_refuses_224 (by decide) ?_
    refine g_if_ne X 234 dL_refuses_225 (by decide) (fun c1094 => ?_) (fun c1094 => ?_)
    · have hf := oneg c1094 hf
      refine g_bipush X (75 : Int32) dL_refuses_234 (by decide) ?_
      refine g_iload_n X dL_refuses_236 1 rfl rfl ?_
      refine g_iadd X dL_refuses_237 ?_
      exact j_L_refuses_b238 X hr hfl q1050.2 x1 x3 x4 x5 ((75 : Int32) + x1) ((3 : Int32) + (x1 - x1 / (10 : Int32) * (10 : Int32))) (6 : Int32) hf
    · have hf := opos c1094 hf
      refine g_iconst X (-1 : Int32) dL_refuses_228 (by decide) ?_
      refine g_iload_n X dL_refuses_229 1 rfl rfl ?_
      refine g_isub X dL_refuses_230 ?_
      refine g_goto X 238 dL_refuses_231 (by decide) ?_
      exact j_L_refuses_b238 X hr hfl q1050.2 x1 x3 x4 x5 ((-1 : Int32) - x1) ((3 : Int32) + (x1 - x1 / (10 : Int32) * (10 : Int32))) (6 : Int32) hf
def f_L_refuses_b87 (v0 : OBv) (x1 : Int32) (x2 : Int32) (x3 : Int32) (x4 : Int32) (x5 : Int32) (y0 : Int32) (y1 : Bool) : Option (Bool × OBv) :=
  (f_O_call v0 (b2i y1) y0 (0 : Int32) (0 : Int32)).bind (fun q1044 => if q1044.1 = (-9999002 : Int32) then (f_O_call q1044.2 (2 : Int32) ((9 : Int32) + (x1 - x1 / (50 : Int32) * (50 : Int32))) (0 : Int32) (0 : Int32)).bind (fun q1045 => if q1045.1 = (-9999002 : Int32) then (f_O_call q1045.2 (3 : Int32) x3 (0 : Int32) (0 : Int32)).bind (fun q1046 => if q1046.1 = (-9999001 : Int32) then (f_O_call q1046.2 (4 : Int32) ((((6 : Int32) * x2) + (3 : Int32)) + (x1 - x1 / (99 : Int32) * (99 : Int32))) (0 : Int32) (0 : Int32)).bind (fun q1047 => if q1047.1 = (-9999001 : Int32) then (f_O_call q1047.2 (2 : Int32) (3 : Int32) (0 : Int32) (0 : Int32)).bind (fun q1048 => (f_O_call q1048.2 (5 : Int32) (q1048.1 + (x1 - x1 / (9 : Int32) * (9 : Int32))) (9 : Int32) (0 : Int32)).bind (fun q1049 => if q1049.1 = (-9999001 : Int32) then if (x1 - x1 / (2 : Int32) * (2 : Int32)) = 0 then f_L_refuses_b203 q1049.2 x1 x3 x4 x5 ((2 : Int32) - (x1 - x1 / (99 : Int32) * (99 : Int32))) (6 : Int32) else f_L_refuses_b203 q1049.2 x1 x3 x4 x5 ((13 : Int32) + (x1 - x1 / (99 : Int32) * (99 : Int32))) (6 : Int32) else some (false, q1049.2))) else some (false, q1047.2)) else some (false, q1046.2)) else some (false, q1045.2)) else some (false, q1044.2))
set_option maxRecDepth 100000 in
set_option maxHeartbeats 4000000 in
theorem j_L_refuses_b87 {p : Program} {l : Launch} {e : Env} {s : State} {m : MethodId} {args : Array Value} {below : List Frame} {meth : Method} {c : Code} {A : Nat → Prop} {D : va_G} {cy : Nat → ClassId} {ad : (Nat → Nat) × (Nat → Nat)} (X : gK p s m args meth c A D cy ad cL_refuses 6 RL) (hr : meth.sig.returnType = (some .boolean)) (hfl : l.stackTraces = false) {h0 : Nat} {hs : Nat → Nat} {ta : TAd} (v0 : OBv) (x1 : Int32) (x2 : Int32) (x3 : Int32) (x4 : Int32) (x5 : Int32) (y0 : Int32) (y1 : Bool) {q : Bool × OBv} (hf : f_L_refuses_b87 v0 x1 x2 x3 x4 x5 y0 y1 = some q) : GW p l e rmL_refuses s m args below meth c A D 6 2 12 (MQ below (cmQ D cy A (some (.int (b2i q.1))) ([OB cy h0 hs ta q.2] : List va_W).flatten) args s 52 312 A) 87 [(0, .ref h0), (1, .int x1), (2, .int x2), (3, .int x3), (4, .int x4), (5, .int x5)] [.int y0, .int (b2i y1), .ref h0] [OB cy h0 hs ta v0] := by
  unfold f_L_refuses_b87 at hf
  refine g_iconst X (0 : Int32) dL_refuses_87 (by decide) ?_
  refine g_iconst X (0 : Int32) dL_refuses_88 (by decide) ?_
  obtain ⟨q1044, hq1044, hf⟩ := obind hf
  refine g_callS (gs' := [OB cy h0 hs ta q1044.2]) (rest := []) X dL_refuses_89 (o_L_call l D cy ad h0 hs ta v0 (b2i y1) y0 (0 : Int32) (0 : Int32) hfl hq1044) mf_L_call ms_L_call lkm_L_144 ⟨(Nat.le_of_ble_eq_true rfl), (Nat.le_of_ble_eq_true rfl), (Nat.le_of_ble_eq_true rfl), (Nat.le_of_ble_eq_true rfl)⟩ [0] _ (by decide : [0].Perm (List.range 1)) rfl (by decide : [0].Perm (List.range 1)) rfl (Nat.le_of_ble_eq_true rfl) rfl ?_
  refine g_cs (c' := 4) (s' := 24) rfl rfl ?_
  refine g_ldc X lkc_L_22 dL_refuses_92 ?_
  refine g_icmp_ne X 605 dL_refuses_94 (by decide) (fun c1101 => ?_) (fun c1101 => ?_)
  · have hf := oneg c1101 hf
    refine g_widen (k := 52) (n := 312) (Nat.le_of_ble_eq_true rfl) (Nat.le_of_ble_eq_true rfl) ?_
    refine g_iconst X (0 : Int32) dL_refuses_605 (by decide) ?_
    have hf := Option.some.inj hf
    subst hf
    exact g_zret (b := false) X hr dL_refuses_606
  · have hf := opos c1101 hf
    refine g_aload_n X dL_refuses_97 0 rfl rfl ?_
    refine g_iconst X (2 : Int32) dL_refuses_98 (by decide) ?_
    refine g_bipush X (9 : Int32) dL_refuses_99 (by decide) ?_
    refine g_iload_n X dL_refuses_101 1 rfl rfl ?_
    refine g_bipush X (50 : Int32) dL_refuses_102 (by decide) ?_
    refine g_irem X dL_refuses_104 (by decide) ?_
    refine g_iadd X dL_refuses_105 ?_
    refine g_iconst X (0 : Int32) dL_refuses_106 (by decide) ?_
    refine g_iconst X (0 : Int32) dL_refuses_107 (by decide) ?_
    obtain ⟨q1045, hq1045, hf⟩ := obind hf
    refine g_callS (gs' := [OB cy h0 hs ta q1045.2]) (rest := []) X dL_refuses_108 (o_L_call l D cy ad h0 hs ta q1044.2 (2 : Int32) ((9 : Int32) + (x1 - x1 / (50 : Int32) * (50 : Int32))) (0 : Int32) (0 : Int32) hfl hq1045) mf_L_call ms_L_call lkm_L_144 ⟨(Nat.le_of_ble_eq_true rfl), (Nat.le_of_ble_eq_true rfl), (Nat.le_of_ble_eq_true rfl), (Nat.le_of_ble_eq_true rfl)⟩ [0] _ (by decide : [0].Perm (List.range 1)) rfl (by decide : [0].Perm (List.range 1)) rfl (Nat.le_of_ble_eq_true rfl) rfl ?_
    refine g_cs (c' := 6) (s' := 36) rfl rfl ?_
    refine g_ldc X lkc_L_22 dL_refuses_111 ?_
    refine g_icmp_ne X 605 dL_refuses_113 (by decide) (fun c1100 => ?_) (fun c1100 => ?_)
    · have hf := oneg c1100 hf
      refine g_widen (k := 52) (n := 312) (Nat.le_of_ble_eq_true rfl) (Nat.le_of_ble_eq_true rfl) ?_
      refine g_iconst X (0 : Int32) dL_refuses_605 (by decide) ?_
      have hf := Option.some.inj hf
      subst hf
      exact g_zret (b := false) X hr dL_refuses_606
    · have hf := opos c1100 hf
      refine g_aload_n X dL_refuses_116 0 rfl rfl ?_
      refine g_iconst X (3 : Int32) dL_refuses_117 (by decide) ?_
      refine g_iload_n X dL_refuses_118 3 rfl rfl ?_
      refine g_iconst X (0 : Int32) dL_refuses_119 (by decide) ?_
      refine g_iconst X (0 : Int32) dL_refuses_120 (by decide) ?_
      obtain ⟨q1046, hq1046, hf⟩ := obind hf
      refine g_callS (gs' := [OB cy h0 hs ta q1046.2]) (rest := []) X dL_refuses_121 (o_L_call l D cy ad h0 hs ta q1045.2 (3 : Int32) x3 (0 : Int32) (0 : Int32) hfl hq1046) mf_L_call ms_L_call lkm_L_144 ⟨(Nat.le_of_ble_eq_true rfl), (Nat.le_of_ble_eq_true rfl), (Nat.le_of_ble_eq_true rfl), (Nat.le_of_ble_eq_true rfl)⟩ [0] _ (by decide : [0].Perm (List.range 1)) rfl (by decide : [0].Perm (List.range 1)) rfl (Nat.le_of_ble_eq_true rfl) rfl ?_
      refine g_cs (c' := 8) (s' := 48) rfl rfl ?_
      refine g_ldc X lkc_L_15 dL_refuses_124 ?_
      refine g_icmp_ne X 605 dL_refuses_126 (by decide) (fun c1099 => ?_) (fun c1099 => ?_)
      · have hf := oneg c1099 hf
        refine g_widen (k := 52) (n := 312) (Nat.le_of_ble_eq_true rfl) (Nat.le_of_ble_eq_true rfl) ?_
        refine g_iconst X (0 : Int32) dL_refuses_605 (by decide) ?_
        have hf := Option.some.inj hf
        subst hf
        exact g_zret (b := false) X hr dL_refuses_606
      · have hf := opos c1099 hf
        refine g_aload_n X dL_refuses_129 0 rfl rfl ?_
        refine g_iconst X (4 : Int32) dL_refuses_130 (by decide) ?_
        refine g_bipush X (6 : Int32) dL_refuses_131 (by decide) ?_
        refine g_iload_n X dL_refuses_133 2 rfl rfl ?_
        refine g_imul X dL_refuses_134 ?_
        refine g_iconst X (3 : Int32) dL_refuses_135 (by decide) ?_
        refine g_iadd X dL_refuses_136 ?_
        refine g_iload_n X dL_refuses_137 1 rfl rfl ?_
        refine g_bipush X (99 : Int32) dL_refuses_138 (by decide) ?_
        refine g_irem X dL_refuses_140 (by decide) ?_
        refine g_iadd X dL_refuses_141 ?_
        refine g_iconst X (0 : Int32) dL_refuses_142 (by decide) ?_
        refine g_iconst X (0 : Int32) dL_refuses_143 (by decide) ?_
        obtain ⟨q1047, hq1047, hf⟩ := obind hf
        refine g_callS (gs' := [OB cy h0 hs ta q1047.2]) (rest := []) X dL_refuses_144 (o_L_call l D cy ad h0 hs ta q1046.2 (4 : Int32) ((((6 : Int32) * x2) + (3 : Int32)) + (x1 - x1 / (99 : Int32) * (99 : Int32))) (0 : Int32) (0 : Int32) hfl hq1047) mf_L_call ms_L_call lkm_L_144 ⟨(Nat.le_of_ble_eq_true rfl), (Nat.le_of_ble_eq_true rfl), (Nat.le_of_ble_eq_true rfl), (Nat.le_of_ble_eq_true rfl)⟩ [0] _ (by decide : [0].Perm (List.range 1)) rfl (by decide : [0].Perm (List.range 1)) rfl (Nat.le_of_ble_eq_true rfl) rfl ?_
        refine g_cs (c' := 10) (s' := 60) rfl rfl ?_
        refine g_ldc X lkc_L_15 dL_refuses_147 ?_
        refine g_icmp_ne X 605 dL_refuses_149 (by decide) (fun c1098 => ?_) (fun c1098 => ?_)
        · have hf := oneg c1098 hf
          refine g_widen (k := 52) (n := 312) (Nat.le_of_ble_eq_true rfl) (Nat.le_of_ble_eq_true rfl) ?_
          refine g_iconst X (0 : Int32) dL_refuses_605 (by decide) ?_
          have hf := Option.some.inj hf
          subst hf
          exact g_zret (b := false) X hr dL_refuses_606
        · have hf := opos c1098 hf
          refine g_aload_n X dL_refuses_152 0 rfl rfl ?_
          refine g_iconst X (5 : Int32) dL_refuses_153 (by decide) ?_
          refine g_aload_n X dL_refuses_154 0 rfl rfl ?_
          refine g_iconst X (2 : Int32) dL_refuses_155 (by decide) ?_
          refine g_iconst X (3 : Int32) dL_refuses_156 (by decide) ?_
          refine g_iconst X (0 : Int32) dL_refuses_157 (by decide) ?_
          refine g_iconst X (0 : Int32) dL_refuses_158 (by decide) ?_
          obtain ⟨q1048, hq1048, hf⟩ := obind hf
          refine g_callS (gs' := [OB cy h0 hs ta q1048.2]) (rest := [.int (5 : Int32), .ref h0]) X dL_refuses_159 (o_L_call l D cy ad h0 hs ta q1047.2 (2 : Int32) (3 : Int32) (0 : Int32) (0 : Int32) hfl hq1048) mf_L_call ms_L_call lkm_L_144 ⟨(Nat.le_of_ble_eq_true rfl), (Nat.le_of_ble_eq_true rfl), (Nat.le_of_ble_eq_true rfl), (Nat.le_of_ble_eq_true rfl)⟩ [0] _ (by decide : [0].Perm (List.range 1)) rfl (by decide : [0].Perm (List.range 1)) rfl (Nat.le_of_ble_eq_true rfl) rfl ?_
          refine g_cs (c' := 12) (s' := 72) rfl rfl ?_
          refine g_iload_n X dL_refuses_162 1 rfl rfl ?_
          refine g_bipush X (9 : Int32) dL_refuses_163 (by decide) ?_
          refine g_irem X dL_refuses_165 (by decide) ?_
          refine g_iadd X dL_refuses_166 ?_
          refine g_bipush X (9 : Int32) dL_refuses_167 (by decide) ?_
          refine g_iconst X (0 : Int32) dL_refuses_169 (by decide) ?_
          obtain ⟨q1049, hq1049, hf⟩ := obind hf
          refine g_callS (gs' := [OB cy h0 hs ta q1049.2]) (rest := []) X dL_refuses_170 (o_L_call l D cy ad h0 hs ta q1048.2 (5 : Int32) (q1048.1 + (x1 - x1 / (9 : Int32) * (9 : Int32))) (9 : Int32) (0 : Int32) hfl hq1049) mf_L_call ms_L_call lkm_L_144 ⟨(Nat.le_of_ble_eq_true rfl), (Nat.le_of_ble_eq_true rfl), (Nat.le_of_ble_eq_true rfl), (Nat.le_of_ble_eq_true rfl)⟩ [0] _ (by decide : [0].Perm (List.range 1)) rfl (by decide : [0].Perm (List.range 1)) rfl (Nat.le_of_ble_eq_true rfl) rfl ?_
          refine g_cs (c' := 14) (s' := 84) rfl rfl ?_
          refine g_ldc X lkc_L_15 dL_refuses_173 ?_
          refine g_icmp_ne X 605 dL_refuses_175 (by decide) (fun c1097 => ?_) (fun c1097 => ?_)
          · have hf := oneg c1097 hf
            refine g_widen (k := 52) (n := 312) (Nat.le_of_ble_eq_true rfl) (Nat.le_of_ble_eq_true rfl) ?_
            refine g_iconst X (0 : Int32) dL_refuses_605 (by decide) ?_
            have hf := Option.some.inj hf
            subst hf
            exact g_zret (b := false) X hr dL_refuses_606
          · have hf := opos c1097 hf
            refine g_aload_n X dL_refuses_178 0 rfl rfl ?_
            refine g_bipush X (6 : Int32) dL_refuses_179 (by decide) ?_
            refine g_iload_n X dL_refuses_181 1 rfl rfl ?_
            refine g_iconst X (2 : Int32) dL_refuses_182 (by decide) ?_
            refine g_irem X dL_refuses_183 (by decide) ?_
            refine g_if_ne X 196 dL_refuses_184 (by decide) (fun c1096 => ?_) (fun c1096 => ?_)
            · have hf := oneg c1096 hf
              refine g_bipush X (13 : Int32) dL_refuses_196 (by decide) ?_
              refine g_iload_n X dL_refuses_198 1 rfl rfl ?_
              refine g_bipush X (99 : Int32) dL_refuses_199 (by decide) ?_
              refine g_irem X dL_refuses_201 (by decide) ?_
              refine g_iadd X dL_refuses_202 ?_
              refine g_sub [0, 1, 3, 4, 5] (lv' := [(0, .ref h0), (1, .int x1), (3, .int x3), (4, .int x4), (5, .int x5)]) rfl ?_
              exact j_L_refuses_b203 X hr hfl q1049.2 x1 x3 x4 x5 ((13 : Int32) + (x1 - x1 / (99 : Int32) * (99 : Int32))) (6 : Int32) hf
            · have hf := opos c1096 hf
              refine g_iconst X (2 : Int32) dL_refuses_187 (by decide) ?_
              refine g_iload_n X dL_refuses_188 1 rfl rfl ?_
              refine g_bipush X (99 : Int32) dL_refuses_189 (by decide) ?_
              refine g_irem X dL_refuses_191 (by decide) ?_
              refine g_isub X dL_refuses_192 ?_
              refine g_goto X 203 dL_refuses_193 (by decide) ?_
              refine g_sub [0, 1, 3, 4, 5] (lv' := [(0, .ref h0), (1, .int x1), (3, .int x3), (4, .int x4), (5, .int x5)]) rfl ?_
              exact j_L_refuses_b203 X hr hfl q1049.2 x1 x3 x4 x5 ((2 : Int32) - (x1 - x1 / (99 : Int32) * (99 : Int32))) (6 : Int32) hf
def f_L_refuses_b62 (v0 : OBv) (x1 : Int32) (x2 : Int32) (x3 : Int32) (x4 : Int32) (x5 : Int32) : Option (Bool × OBv) :=
  if (x1 - x1 / (2 : Int32) * (2 : Int32)) = 0 then f_L_refuses_b87 v0 x1 x2 x3 x4 x5 ((-1 : Int32) - (x1 - x1 / (9 : Int32) * (9 : Int32))) false else f_L_refuses_b87 v0 x1 x2 x3 x4 x5 ((256 : Int32) + (x1 - x1 / (9 : Int32) * (9 : Int32))) false
set_option maxRecDepth 100000 in
set_option maxHeartbeats 4000000 in
theorem j_L_refuses_b62 {p : Program} {l : Launch} {e : Env} {s : State} {m : MethodId} {args : Array Value} {below : List Frame} {meth : Method} {c : Code} {A : Nat → Prop} {D : va_G} {cy : Nat → ClassId} {ad : (Nat → Nat) × (Nat → Nat)} (X : gK p s m args meth c A D cy ad cL_refuses 6 RL) (hr : meth.sig.returnType = (some .boolean)) (hfl : l.stackTraces = false) {h0 : Nat} {hs : Nat → Nat} {ta : TAd} (v0 : OBv) (x1 : Int32) (x2 : Int32) (x3 : Int32) (x4 : Int32) (x5 : Int32) {q : Bool × OBv} (hf : f_L_refuses_b62 v0 x1 x2 x3 x4 x5 = some q) : GW p l e rmL_refuses s m args below meth c A D 6 2 12 (MQ below (cmQ D cy A (some (.int (b2i q.1))) ([OB cy h0 hs ta q.2] : List va_W).flatten) args s 52 312 A) 62 [(0, .ref h0), (1, .int x1), (2, .int x2), (3, .int x3), (4, .int x4), (5, .int x5)] [] [OB cy h0 hs ta v0] := by
  unfold f_L_refuses_b62 at hf
  refine g_aload_n X dL_refuses_62 0 rfl rfl ?_
  refine g_iconst X (0 : Int32) dL_refuses_63 (by decide) ?_
  refine g_iload_n X dL_refuses_64 1 rfl rfl ?_
  refine g_iconst X (2 : Int32) dL_refuses_65 (by decide) ?_
  refine g_irem X dL_refuses_66 (by decide) ?_
  refine g_if_ne X 79 dL_refuses_67 (by decide) (fun c1102 => ?_) (fun c1102 => ?_)
  · have hf := oneg c1102 hf
    refine g_sipush X (256 : Int32) dL_refuses_79 (by decide) ?_
    refine g_iload_n X dL_refuses_82 1 rfl rfl ?_
    refine g_bipush X (9 : Int32) dL_refuses_83 (by decide) ?_
    refine g_irem X dL_refuses_85 (by decide) ?_
    refine g_iadd X dL_refuses_86 ?_
    exact j_L_refuses_b87 X hr hfl v0 x1 x2 x3 x4 x5 ((256 : Int32) + (x1 - x1 / (9 : Int32) * (9 : Int32))) false hf
  · have hf := opos c1102 hf
    refine g_iconst X (-1 : Int32) dL_refuses_70 (by decide) ?_
    refine g_iload_n X dL_refuses_71 1 rfl rfl ?_
    refine g_bipush X (9 : Int32) dL_refuses_72 (by decide) ?_
    refine g_irem X dL_refuses_74 (by decide) ?_
    refine g_isub X dL_refuses_75 ?_
    refine g_goto X 87 dL_refuses_76 (by decide) ?_
    exact j_L_refuses_b87 X hr hfl v0 x1 x2 x3 x4 x5 ((-1 : Int32) - (x1 - x1 / (9 : Int32) * (9 : Int32))) false hf
def f_L_refuses_b49 (v0 : OBv) (x1 : Int32) (x2 : Int32) (x3 : Int32) (y0 : Int32) : Option (Bool × OBv) :=
  if (((1 : Int32) <<< (x2 &&& 31)) - (1 : Int32)) = 0 then none else f_L_refuses_b62 v0 x1 x2 x3 y0 ((1 : Int32) + (x1 - x1 / (((1 : Int32) <<< (x2 &&& 31)) - (1 : Int32)) * (((1 : Int32) <<< (x2 &&& 31)) - (1 : Int32))))
set_option maxRecDepth 100000 in
set_option maxHeartbeats 4000000 in
theorem j_L_refuses_b49 {p : Program} {l : Launch} {e : Env} {s : State} {m : MethodId} {args : Array Value} {below : List Frame} {meth : Method} {c : Code} {A : Nat → Prop} {D : va_G} {cy : Nat → ClassId} {ad : (Nat → Nat) × (Nat → Nat)} (X : gK p s m args meth c A D cy ad cL_refuses 6 RL) (hr : meth.sig.returnType = (some .boolean)) (hfl : l.stackTraces = false) {h0 : Nat} {hs : Nat → Nat} {ta : TAd} (v0 : OBv) (x1 : Int32) (x2 : Int32) (x3 : Int32) (y0 : Int32) {q : Bool × OBv} (hf : f_L_refuses_b49 v0 x1 x2 x3 y0 = some q) : GW p l e rmL_refuses s m args below meth c A D 6 2 12 (MQ below (cmQ D cy A (some (.int (b2i q.1))) ([OB cy h0 hs ta q.2] : List va_W).flatten) args s 52 312 A) 49 [(0, .ref h0), (1, .int x1), (2, .int x2), (3, .int x3)] [.int y0] [OB cy h0 hs ta v0] := by
  unfold f_L_refuses_b49 at hf
  refine g_istore (lv' := [(0, .ref h0), (1, .int x1), (2, .int x2), (3, .int x3), (4, .int y0)]) X dL_refuses_49 [1, 2, 3, 4, 0] (Nat.le_of_ble_eq_true rfl) rfl ?_
  refine g_iconst X (1 : Int32) dL_refuses_51 (by decide) ?_
  refine g_iload_n X dL_refuses_52 1 rfl rfl ?_
  refine g_iconst X (1 : Int32) dL_refuses_53 (by decide) ?_
  refine g_iload_n X dL_refuses_54 2 rfl rfl ?_
  refine g_ishl X dL_refuses_55 ?_
  refine g_iconst X (1 : Int32) dL_refuses_56 (by decide) ?_
  refine g_isub X dL_refuses_57 ?_
  obtain ⟨n1043, hf⟩ := oguard hf
  refine g_irem X dL_refuses_58 n1043 ?_
  refine g_iadd X dL_refuses_59 ?_
  refine g_istore (lv' := [(0, .ref h0), (1, .int x1), (2, .int x2), (3, .int x3), (4, .int y0), (5, .int ((1 : Int32) + (x1 - x1 / (((1 : Int32) <<< (x2 &&& 31)) - (1 : Int32)) * (((1 : Int32) <<< (x2 &&& 31)) - (1 : Int32)))))]) X dL_refuses_60 [1, 2, 3, 4, 5, 0] (Nat.le_of_ble_eq_true rfl) rfl ?_
  exact j_L_refuses_b62 X hr hfl v0 x1 x2 x3 y0 ((1 : Int32) + (x1 - x1 / (((1 : Int32) <<< (x2 &&& 31)) - (1 : Int32)) * (((1 : Int32) <<< (x2 &&& 31)) - (1 : Int32)))) hf
def f_L_refuses_b30 (v0 : OBv) (x1 : Int32) (x2 : Int32) (y0 : Int32) : Option (Bool × OBv) :=
  if (x1 - x1 / (2 : Int32) * (2 : Int32)) = 0 then f_L_refuses_b49 v0 x1 x2 y0 ((-1 : Int32) - (x1 - x1 / (99 : Int32) * (99 : Int32))) else f_L_refuses_b49 v0 x1 x2 y0 ((1 : Int32) <<< (x2 &&& 31))
set_option maxRecDepth 100000 in
set_option maxHeartbeats 4000000 in
theorem j_L_refuses_b30 {p : Program} {l : Launch} {e : Env} {s : State} {m : MethodId} {args : Array Value} {below : List Frame} {meth : Method} {c : Code} {A : Nat → Prop} {D : va_G} {cy : Nat → ClassId} {ad : (Nat → Nat) × (Nat → Nat)} (X : gK p s m args meth c A D cy ad cL_refuses 6 RL) (hr : meth.sig.returnType = (some .boolean)) (hfl : l.stackTraces = false) {h0 : Nat} {hs : Nat → Nat} {ta : TAd} (v0 : OBv) (x1 : Int32) (x2 : Int32) (y0 : Int32) {q : Bool × OBv} (hf : f_L_refuses_b30 v0 x1 x2 y0 = some q) : GW p l e rmL_refuses s m args below meth c A D 6 2 12 (MQ below (cmQ D cy A (some (.int (b2i q.1))) ([OB cy h0 hs ta q.2] : List va_W).flatten) args s 52 312 A) 30 [(0, .ref h0), (1, .int x1), (2, .int x2)] [.int y0] [OB cy h0 hs ta v0] := by
  unfold f_L_refuses_b30 at hf
  refine g_istore_n (lv' := [(0, .ref h0), (1, .int x1), (2, .int x2), (3, .int y0)]) X dL_refuses_30 [1, 2, 3, 0] rfl (Nat.le_of_ble_eq_true rfl) rfl ?_
  refine g_iload_n X dL_refuses_31 1 rfl rfl ?_
  refine g_iconst X (2 : Int32) dL_refuses_32 (by decide) ?_
  refine g_irem X dL_refuses_33 (by decide) ?_
  refine g_if_ne X 46 dL_refuses_34 (by decide) (fun c1103 => ?_) (fun c1103 => ?_)
  · have hf := oneg c1103 hf
    refine g_iconst X (1 : Int32) dL_refuses_46 (by decide) ?_
    refine g_iload_n X dL_refuses_47 2 rfl rfl ?_
    refine g_ishl X dL_refuses_48 ?_
    exact j_L_refuses_b49 X hr hfl v0 x1 x2 y0 ((1 : Int32) <<< (x2 &&& 31)) hf
  · have hf := opos c1103 hf
    refine g_iconst X (-1 : Int32) dL_refuses_37 (by decide) ?_
    refine g_iload_n X dL_refuses_38 1 rfl rfl ?_
    refine g_bipush X (99 : Int32) dL_refuses_39 (by decide) ?_
    refine g_irem X dL_refuses_41 (by decide) ?_
    refine g_isub X dL_refuses_42 ?_
    refine g_goto X 49 dL_refuses_43 (by decide) ?_
    exact j_L_refuses_b49 X hr hfl v0 x1 x2 y0 ((-1 : Int32) - (x1 - x1 / (99 : Int32) * (99 : Int32))) hf
def f_L_refuses (v0 : OBv) (p1 : Int32) : Option (Bool × OBv) :=
  (f_O_call v0 (2 : Int32) (0 : Int32) (0 : Int32) (0 : Int32)).bind (fun q1042 => if (p1 - p1 / (2 : Int32) * (2 : Int32)) = 0 then f_L_refuses_b30 q1042.2 p1 q1042.1 ((-1 : Int32) - (p1 - p1 / (99 : Int32) * (99 : Int32))) else f_L_refuses_b30 q1042.2 p1 q1042.1 (q1042.1 + (p1 - p1 / (99 : Int32) * (99 : Int32))))
set_option maxRecDepth 100000 in
set_option maxHeartbeats 4000000 in
theorem c_L_refuses (l : Launch) (D : va_G) (cy : Nat → ClassId) (ad : (Nat → Nat) × (Nat → Nat)) (h0 : Nat) (hs : Nat → Nat) (ta : TAd) (v0 : OBv) (p1 : Int32) (hfl : l.stackTraces = false) {q : Bool × OBv} (hf : f_L_refuses v0 p1 = some q) : CM l yL_refuses cL_refuses 6 (some .boolean) rmL_refuses D cy ad [.ref h0, .int p1] [OB cy h0 hs ta v0] (some (.int (b2i q.1))) [OB cy h0 hs ta q.2] := by
  refine cm_of (lv0 := [(0, .ref h0), (1, .int p1)]) (by decide) (Nat.le_of_ble_eq_true rfl) rfl ?_
  intro p e s m args below meth c A X hr hn
  have X : gK p s m args meth c A D cy ad cL_refuses 6 RL := X
  unfold f_L_refuses at hf
  refine g_aload_n X dL_refuses_0 0 rfl rfl ?_
  refine g_iconst X (2 : Int32) dL_refuses_1 (by decide) ?_
  refine g_iconst X (0 : Int32) dL_refuses_2 (by decide) ?_
  refine g_iconst X (0 : Int32) dL_refuses_3 (by decide) ?_
  refine g_iconst X (0 : Int32) dL_refuses_4 (by decide) ?_
  obtain ⟨q1042, hq1042, hf⟩ := obind hf
  refine g_callS (gs' := [OB cy h0 hs ta q1042.2]) (rest := []) X dL_refuses_5 (o_L_call l D cy ad h0 hs ta v0 (2 : Int32) (0 : Int32) (0 : Int32) (0 : Int32) hfl hq1042) mf_L_call ms_L_call lkm_L_144 ⟨(Nat.le_of_ble_eq_true rfl), (Nat.le_of_ble_eq_true rfl), (Nat.le_of_ble_eq_true rfl), (Nat.le_of_ble_eq_true rfl)⟩ [0] _ (by decide : [0].Perm (List.range 1)) rfl (by decide : [0].Perm (List.range 1)) rfl (Nat.le_of_ble_eq_true rfl) rfl ?_
  refine g_cs (c' := 2) (s' := 12) rfl rfl ?_
  refine g_istore_n (lv' := [(0, .ref h0), (1, .int p1), (2, .int q1042.1)]) X dL_refuses_8 [1, 2, 0] rfl (Nat.le_of_ble_eq_true rfl) rfl ?_
  refine g_iload_n X dL_refuses_9 1 rfl rfl ?_
  refine g_iconst X (2 : Int32) dL_refuses_10 (by decide) ?_
  refine g_irem X dL_refuses_11 (by decide) ?_
  refine g_if_ne X 24 dL_refuses_12 (by decide) (fun c1104 => ?_) (fun c1104 => ?_)
  · have hf := oneg c1104 hf
    refine g_iload_n X dL_refuses_24 2 rfl rfl ?_
    refine g_iload_n X dL_refuses_25 1 rfl rfl ?_
    refine g_bipush X (99 : Int32) dL_refuses_26 (by decide) ?_
    refine g_irem X dL_refuses_28 (by decide) ?_
    refine g_iadd X dL_refuses_29 ?_
    exact j_L_refuses_b30 X hr hfl q1042.2 p1 q1042.1 (q1042.1 + (p1 - p1 / (99 : Int32) * (99 : Int32))) hf
  · have hf := opos c1104 hf
    refine g_iconst X (-1 : Int32) dL_refuses_15 (by decide) ?_
    refine g_iload_n X dL_refuses_16 1 rfl rfl ?_
    refine g_bipush X (99 : Int32) dL_refuses_17 (by decide) ?_
    refine g_irem X dL_refuses_19 (by decide) ?_
    refine g_isub X dL_refuses_20 ?_
    refine g_goto X 30 dL_refuses_21 (by decide) ?_
    exact j_L_refuses_b30 X hr hfl q1042.2 p1 q1042.1 ((-1 : Int32) - (p1 - p1 / (99 : Int32) * (99 : Int32))) hf
