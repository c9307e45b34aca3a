abbrev rmX6_add : Room := ({ frames := 0, cells := 0, slots := 0, locals := 0 } : Room)
def f_X6_add (v0 : TXv) (p1 : Int32) : Option (TXv) :=
  if v0.1 < 0 then some v0 else if (120 : Int32) ≤ v0.1 then some v0 else if v0.1 < 0 ∨ 120 ≤ v0.1.toNatClampNeg then none else some ((v0.1 + (1 : Int32)), v0.2.1, v0.2.2.1, v0.2.2.2.1, v0.2.2.2.2.1, v0.2.2.2.2.2.1, v0.2.2.2.2.2.2.1, v0.2.2.2.2.2.2.2.1, (upd v0.2.2.2.2.2.2.2.2 v0.1.toNatClampNeg (vp_nar .char p1)))
set_option maxRecDepth 100000 in
set_option maxHeartbeats 4000000 in
theorem c_X6_add (l : Launch) (D : va_G) (cy : Nat → ClassId) (ad : (Nat → Nat) × (Nat → Nat)) (h0 : Nat) (h1 : Nat) (v0 : TXv) (p1 : Int32) {q : TXv} (hf : f_X6_add v0 p1 = some q) : CM l yX6_add cX6_add 2 none rmX6_add D cy ad [.ref h0, .int p1] [TX cy h0 h1 v0] none [TX cy h0 h1 q] := by
  refine cm_of (lv0 := [(0, .ref h0), (1, .int p1)]) (by decide) (Nat.le_of_ble_eq_true rfl) rfl ?_
  intro p e s m args below meth c A X hr hn
  have X : gK p s m args meth c A D cy ad cX6_add 2 RX6 := X
  unfold f_X6_add at hf
  refine g_aload_n X dX6_add_0 0 rfl rfl ?_
  refine g_get X dX6_add_1 ck_X6 0 0 1 rfl rfl (Nat.le_of_ble_eq_true rfl) lkf_X6_15 rfl ?_
  refine g_if_lt X 39 dX6_add_4 (by decide) (fun c249 => ?_) (fun c249 => ?_)
  · have hf := opos c249 hf
    have hf := Option.some.inj hf
    subst hf
    exact g_vret X hr dX6_add_39
  · have hf := oneg c249 hf
    refine g_aload_n X dX6_add_7 0 rfl rfl ?_
    refine g_get X dX6_add_8 ck_X6 0 0 1 rfl rfl (Nat.le_of_ble_eq_true rfl) lkf_X6_15 rfl ?_
    refine g_aload_n X dX6_add_11 0 rfl rfl ?_
    refine g_get X dX6_add_12 ck_X6 0 0 0 rfl rfl (Nat.le_of_ble_eq_true rfl) lkf_X6_9 rfl ?_
    refine g_alen1 (v := (120 : Int32)) X dX6_add_15 0 1 rfl rfl (by decide : Int32.ofNat 120 = (120 : Int32)) ?_
    refine g_icmp_ge X 39 dX6_add_16 (by decide) (fun c248 => ?_) (fun c248 => ?_)
    · have hf := opos c248 hf
      have hf := Option.some.inj hf
      subst hf
      exact g_vret X hr dX6_add_39
    · have hf := oneg c248 hf
      refine g_aload_n X dX6_add_19 0 rfl rfl ?_
      refine g_get X dX6_add_20 ck_X6 0 0 0 rfl rfl (Nat.le_of_ble_eq_true rfl) lkf_X6_9 rfl ?_
      refine g_aload_n X dX6_add_23 0 rfl rfl ?_
      refine g_get X dX6_add_24 ck_X6 0 0 1 rfl rfl (Nat.le_of_ble_eq_true rfl) lkf_X6_15 rfl ?_
      refine g_iload_n X dX6_add_27 1 rfl rfl ?_
      obtain ⟨n247, hf⟩ := oguard hf
      refine g_castore (gs' := [TX cy h0 h1 (v0.1, v0.2.1, v0.2.2.1, v0.2.2.2.1, v0.2.2.2.2.1, v0.2.2.2.2.2.1, v0.2.2.2.2.2.2.1, v0.2.2.2.2.2.2.2.1, (upd v0.2.2.2.2.2.2.2.2 v0.1.toNatClampNeg (vp_nar .char p1)))]) X dX6_add_28 0 1 rfl rfl n247 rfl ?_
      refine g_aload_n X dX6_add_29 0 rfl rfl ?_
      refine g_dup X dX6_add_30 rfl ?_
      refine g_get X dX6_add_31 ck_X6 0 0 1 rfl rfl (Nat.le_of_ble_eq_true rfl) lkf_X6_15 rfl ?_
      refine g_iconst X (1 : Int32) dX6_add_34 (by decide) ?_
      refine g_iadd X dX6_add_35 ?_
      refine g_put (gs' := [TX cy h0 h1 ((v0.1 + (1 : Int32)), v0.2.1, v0.2.2.1, v0.2.2.2.1, v0.2.2.2.2.1, v0.2.2.2.2.2.1, v0.2.2.2.2.2.2.1, v0.2.2.2.2.2.2.2.1, (upd v0.2.2.2.2.2.2.2.2 v0.1.toNatClampNeg (vp_nar .char p1)))]) X dX6_add_36 ck_X6 ct_X6 0 0 1 rfl rfl (Nat.le_of_ble_eq_true rfl) lkf_X6_15 rfl rfl rfl (Nat.le_of_ble_eq_true rfl) rfl ?_
      have hf := Option.some.inj hf
      subst hf
      exact g_vret X hr dX6_add_39
abbrev rmX6_hasMore : Room := ({ frames := 0, cells := 0, slots := 0, locals := 0 } : Room)
def f_X6_hasMore (v0 : TXv) : Option (Bool) :=
  if v0.2.2.1 = 0 then if v0.1 ≤ v0.2.1 then some false else some true else some false
set_option maxRecDepth 100000 in
set_option maxHeartbeats 4000000 in
theorem c_X6_hasMore (l : Launch) (D : va_G) (cy : Nat → ClassId) (ad : (Nat → Nat) × (Nat → Nat)) (h0 : Nat) (h1 : Nat) (v0 : TXv) {q : Bool} (hf : f_X6_hasMore v0 = some q) : CM l yX6_hasMore cX6_hasMore 1 (some .boolean) rmX6_hasMore D cy ad [.ref h0] [TX cy h0 h1 v0] (some (.int (b2i q))) [TX cy h0 h1 v0] := by
  refine cm_of (lv0 := [(0, .ref h0)]) (by decide) (Nat.le_of_ble_eq_true rfl) rfl ?_
  intro p e s m args below meth c A X hr hn
  have X : gK p s m args meth c A D cy ad cX6_hasMore 1 RX6 := X
  unfold f_X6_hasMore at hf
  refine g_aload_n X dX6_hasMore_0 0 rfl rfl ?_
  refine g_get X dX6_hasMore_1 ck_X6 0 0 3 rfl rfl (Nat.le_of_ble_eq_true rfl) lkf_X6_19 rfl ?_
  refine g_if_ne X 22 dX6_hasMore_4 (by decide) (fun c251 => ?_) (fun c251 => ?_)
  · have hf := oneg c251 hf
    refine g_iconst X (0 : Int32) dX6_hasMore_22 (by decide) ?_
    have hf := Option.some.inj hf
    subst hf
    exact g_zret (b := false) X hr dX6_hasMore_23
  · have hf := opos c251 hf
    refine g_aload_n X dX6_hasMore_7 0 rfl rfl ?_
    refine g_get X dX6_hasMore_8 ck_X6 0 0 2 rfl rfl (Nat.le_of_ble_eq_true rfl) lkf_X6_23 rfl ?_
    refine g_aload_n X dX6_hasMore_11 0 rfl rfl ?_
    refine g_get X dX6_hasMore_12 ck_X6 0 0 1 rfl rfl (Nat.le_of_ble_eq_true rfl) lkf_X6_15 rfl ?_
    refine g_icmp_ge X 22 dX6_hasMore_15 (by decide) (fun c250 => ?_) (fun c250 => ?_)
    · have hf := opos c250 hf
      refine g_iconst X (0 : Int32) dX6_hasMore_22 (by decide) ?_
      have hf := Option.some.inj hf
      subst hf
      exact g_zret (b := false) X hr dX6_hasMore_23
    · have hf := oneg c250 hf
      refine g_iconst X (1 : Int32) dX6_hasMore_18 (by decide) ?_
      refine g_goto X 23 dX6_hasMore_19 (by decide) ?_
      have hf := Option.some.inj hf
      subst hf
      exact g_zret (b := true) X hr dX6_hasMore_23
abbrev rmX6_nextSign : Room := ({ frames := 1, cells := 0, slots := 0, locals := 20 } : Room)
def f_X6_nextSign (v0 : TXv) : Option (Int32) :=
  (f_X6_hasMore v0).bind (fun q256 => if (b2i q256) = 0 then some (-1 : Int32) else if v0.2.1 < 0 then some (-1 : Int32) else if (120 : Int32) ≤ v0.2.1 then some (-1 : Int32) else if v0.2.1 < 0 ∨ 120 ≤ v0.2.1.toNatClampNeg then none else some (v0.2.2.2.2.2.2.2.2 v0.2.1.toNatClampNeg))
set_option maxRecDepth 100000 in
set_option maxHeartbeats 4000000 in
theorem c_X6_nextSign (l : Launch) (D : va_G) (cy : Nat → ClassId) (ad : (Nat → Nat) × (Nat → Nat)) (h0 : Nat) (h1 : Nat) (v0 : TXv) {q : Int32} (hf : f_X6_nextSign v0 = some q) : CM l yX6_nextSign cX6_nextSign 1 (some .int) rmX6_nextSign D cy ad [.ref h0] [TX cy h0 h1 v0] (some (.int q)) [TX cy h0 h1 v0] := by
  refine cm_of (lv0 := [(0, .ref h0)]) (by decide) (Nat.le_of_ble_eq_true rfl) rfl ?_
  intro p e s m args below meth c A X hr hn
  have X : gK p s m args meth c A D cy ad cX6_nextSign 1 RX6 := X
  unfold f_X6_nextSign at hf
  refine g_aload_n X dX6_nextSign_0 0 rfl rfl ?_
  obtain ⟨q256, hq256, hf⟩ := obind hf
  refine g_callV (gs' := [TX cy h0 h1 v0]) (rest := []) X dX6_nextSign_1 (c_X6_hasMore l D cy ad h0 h1 v0 hq256) mf_X6_hasMore mv_X6_hasMore lkm_X6_66 ⟨(Nat.le_of_ble_eq_true rfl), (Nat.le_of_ble_eq_true rfl), (Nat.le_of_ble_eq_true rfl), (Nat.le_of_ble_eq_true rfl)⟩ 0 0 rfl rfl rfl rfl [0] _ (by decide : [0].Perm (List.range 1)) rfl (by decide : [0].Perm (List.range 1)) rfl (Nat.le_of_ble_eq_true rfl) rfl ?_
  refine g_if_eq X 38 dX6_nextSign_4 (by decide) (fun c260 => ?_) (fun c260 => ?_)
  · have hf := opos c260 hf
    refine g_iconst X (-1 : Int32) dX6_nextSign_38 (by decide) ?_
    have hf := Option.some.inj hf
    subst hf
    exact g_iret X hr dX6_nextSign_39
  · have hf := oneg c260 hf
    refine g_aload_n X dX6_nextSign_7 0 rfl rfl ?_
    refine g_get X dX6_nextSign_8 ck_X6 0 0 2 rfl rfl (Nat.le_of_ble_eq_true rfl) lkf_X6_23 rfl ?_
    refine g_if_lt X 38 dX6_nextSign_11 (by decide) (fun c259 => ?_) (fun c259 => ?_)
    · have hf := opos c259 hf
      refine g_iconst X (-1 : Int32) dX6_nextSign_38 (by decide) ?_
      have hf := Option.some.inj hf
      subst hf
      exact g_iret X hr dX6_nextSign_39
    · have hf := oneg c259 hf
      refine g_aload_n X dX6_nextSign_14 0 rfl rfl ?_
      refine g_get X dX6_nextSign_15 ck_X6 0 0 2 rfl rfl (Nat.le_of_ble_eq_true rfl) lkf_X6_23 rfl ?_
      refine g_aload_n X dX6_nextSign_18 0 rfl rfl ?_
      refine g_get X dX6_nextSign_19 ck_X6 0 0 0 rfl rfl (Nat.le_of_ble_eq_true rfl) lkf_X6_9 rfl ?_
      refine g_alen1 (v := (120 : Int32)) X dX6_nextSign_22 0 1 rfl rfl (by decide : Int32.ofNat 120 = (120 : Int32)) ?_
      refine g_icmp_ge X 38 dX6_nextSign_23 (by decide) (fun c258 => ?_) (fun c258 => ?_)
      · have hf := opos c258 hf
        refine g_iconst X (-1 : Int32) dX6_nextSign_38 (by decide) ?_
        have hf := Option.some.inj hf
        subst hf
        exact g_iret X hr dX6_nextSign_39
      · have hf := oneg c258 hf
        refine g_aload_n X dX6_nextSign_26 0 rfl rfl ?_
        refine g_get X dX6_nextSign_27 ck_X6 0 0 0 rfl rfl (Nat.le_of_ble_eq_true rfl) lkf_X6_9 rfl ?_
        refine g_aload_n X dX6_nextSign_30 0 rfl rfl ?_
        refine g_get X dX6_nextSign_31 ck_X6 0 0 2 rfl rfl (Nat.le_of_ble_eq_true rfl) lkf_X6_23 rfl ?_
        obtain ⟨n257, hf⟩ := oguard hf
        refine g_caload X dX6_nextSign_34 0 1 rfl rfl n257 ?_
        refine g_goto X 39 dX6_nextSign_35 (by decide) ?_
        have hf := Option.some.inj hf
        subst hf
        exact g_iret X hr dX6_nextSign_39
abbrev rmJ0_isLatin1_aae02 : Room := ({ frames := 0, cells := 0, slots := 0, locals := 0 } : Room)
def f_J0_isLatin1_aae02 (i : Nat) : Option (Bool) :=
  if (1 : Int32) = 0 then some false else if (0 : Int32) = 0 then some true else some false
set_option maxRecDepth 100000 in
set_option maxHeartbeats 4000000 in
theorem c_J0_isLatin1_aae02 (l : Launch) (D : va_G) (cy : Nat → ClassId) (ad : (Nat → Nat) × (Nat → Nat)) (i : Nat) (hi : i < 5) {q : Bool} (hf : f_J0_isLatin1_aae02 i = some q) : CM l yJ0_isLatin1_aae02 cJ0_isLatin1_aae02 1 (some .boolean) rmJ0_isLatin1_aae02 D cy ad [.ref (ad.1 i)] [] (some (.int (b2i q))) [] := by
  refine cm_of (lv0 := [(0, .ref (ad.1 i))]) (by decide) (Nat.le_of_ble_eq_true rfl) rfl ?_
  intro p e s m args below meth c A X hr hn
  have X : gK p s m args meth c A D cy ad cJ0_isLatin1_aae02 1 RJ0 := X
  unfold f_J0_isLatin1_aae02 at hf
  refine g_scompact X dJ0_isLatin1_aae02_0 lks_38 ?_
  refine g_if_eq X 17 dJ0_isLatin1_aae02_3 (by decide) (fun c262 => ?_) (fun c262 => ?_)
  · have hf := opos c262 hf
    refine g_iconst X (0 : Int32) dJ0_isLatin1_aae02_17 (by decide) ?_
    have hf := Option.some.inj hf
    subst hf
    exact g_zret (b := false) X hr dJ0_isLatin1_aae02_18
  · have hf := oneg c262 hf
    refine g_aload_n X dJ0_isLatin1_aae02_6 0 rfl rfl ?_
    refine g_scoder X dJ0_isLatin1_aae02_7 hi lks_15 ?_
    refine g_if_ne X 17 dJ0_isLatin1_aae02_10 (by decide) (fun c261 => ?_) (fun c261 => ?_)
    · have hf := oneg c261 hf
      refine g_iconst X (0 : Int32) dJ0_isLatin1_aae02_17 (by decide) ?_
      have hf := Option.some.inj hf
      subst hf
      exact g_zret (b := false) X hr dJ0_isLatin1_aae02_18
    · have hf := opos c261 hf
      refine g_iconst X (1 : Int32) dJ0_isLatin1_aae02_13 (by decide) ?_
      refine g_goto X 18 dJ0_isLatin1_aae02_14 (by decide) ?_
      have hf := Option.some.inj hf
      subst hf
      exact g_zret (b := true) X hr dJ0_isLatin1_aae02_18
abbrev rmJ0_coder_7d493 : Room := ({ frames := 0, cells := 0, slots := 0, locals := 0 } : Room)
def f_J0_coder_7d493 (i : Nat) : Option (Int32) :=
  if (1 : Int32) = 0 then some (1 : Int32) else some (0 : Int32)
set_option maxRecDepth 100000 in
set_option maxHeartbeats 4000000 in
theorem c_J0_coder_7d493 (l : Launch) (D : va_G) (cy : Nat → ClassId) (ad : (Nat → Nat) × (Nat → Nat)) (i : Nat) (hi : i < 5) {q : Int32} (hf : f_J0_coder_7d493 i = some q) : CM l yJ0_coder_7d493 cJ0_coder_7d493 1 (some .byte) rmJ0_coder_7d493 D cy ad [.ref (ad.1 i)] [] (some (.int q)) [] := by
  refine cm_of (lv0 := [(0, .ref (ad.1 i))]) (by decide) (Nat.le_of_ble_eq_true rfl) rfl ?_
  intro p e s m args below meth c A X hr hn
  have X : gK p s m args meth c A D cy ad cJ0_coder_7d493 1 RJ0 := X
  unfold f_J0_coder_7d493 at hf
  refine g_scompact X dJ0_coder_7d493_0 lks_38 ?_
  refine g_if_eq X 13 dJ0_coder_7d493_3 (by decide) (fun c263 => ?_) (fun c263 => ?_)
  · have hf := opos c263 hf
    refine g_iconst X (1 : Int32) dJ0_coder_7d493_13 (by decide) ?_
    have hf := Option.some.inj hf
    subst hf
    exact g_tret X hr (by decide) dJ0_coder_7d493_14
  · have hf := oneg c263 hf
    refine g_aload_n X dJ0_coder_7d493_6 0 rfl rfl ?_
    refine g_scoder X dJ0_coder_7d493_7 hi lks_15 ?_
    refine g_goto X 14 dJ0_coder_7d493_10 (by decide) ?_
    have hf := Option.some.inj hf
    subst hf
    exact g_tret X hr (by decide) dJ0_coder_7d493_14
abbrev rmJ0_length_8abf5 : Room := ({ frames := 1, cells := 0, slots := 0, locals := 20 } : Room)
def f_J0_length_8abf5 (i : Nat) : Option (Int32) :=
  (f_J0_coder_7d493 i).bind (fun q266 => some ((Int32.ofNat (stB i).length) >>> (q266 &&& 31)))
set_option maxRecDepth 100000 in
set_option maxHeartbeats 4000000 in
theorem c_J0_length_8abf5 (l : Launch) (D : va_G) (cy : Nat → ClassId) (ad : (Nat → Nat) × (Nat → Nat)) (i : Nat) (hi : i < 5) {q : Int32} (hf : f_J0_length_8abf5 i = some q) : CM l yJ0_length_8abf5 cJ0_length_8abf5 1 (some .int) rmJ0_length_8abf5 D cy ad [.ref (ad.1 i)] [] (some (.int q)) [] := by
  refine cm_of (lv0 := [(0, .ref (ad.1 i))]) (by decide) (Nat.le_of_ble_eq_true rfl) rfl ?_
  intro p e s m args below meth c A X hr hn
  have X : gK p s m args meth c A D cy ad cJ0_length_8abf5 1 RJ0 := X
  unfold f_J0_length_8abf5 at hf
  refine g_aload_n X dJ0_length_8abf5_0 0 rfl rfl ?_
  refine g_svalue X dJ0_length_8abf5_1 hi lks_9 ?_
  refine g_slen X dJ0_length_8abf5_4 hi ?_
  refine g_aload_n X dJ0_length_8abf5_5 0 rfl rfl ?_
  obtain ⟨q266, hq266, hf⟩ := obind hf
  refine g_callVS (gs' := []) (rest := [.int (Int32.ofNat (stB i).length)]) X hi dJ0_length_8abf5_6 (c_J0_coder_7d493 l D cy ad i hi hq266) mf_J0_coder_7d493 mv_J0_coder_7d493 lkm_J0_335 ⟨(Nat.le_of_ble_eq_true rfl), (Nat.le_of_ble_eq_true rfl), (Nat.le_of_ble_eq_true rfl), (Nat.le_of_ble_eq_true rfl)⟩ rfl [] _ (List.Perm.refl _ : ([] : List Nat).Perm (List.range 0)) rfl (List.Perm.refl _ : ([] : List Nat).Perm (List.range 0)) rfl (Nat.le_of_ble_eq_true rfl) rfl ?_
  refine g_ishr X dJ0_length_8abf5_9 ?_
  have hf := Option.some.inj hf
  subst hf
  exact g_iret X hr dJ0_length_8abf5_10
abbrev rmJ1_canEncode_9a6ad : Room := ({ frames := 0, cells := 0, slots := 0, locals := 0 } : Room)
def f_J1_canEncode_9a6ad (p0 : Int32) : Option (Bool) :=
  if p0 < 0 then some false else if (255 : Int32) < p0 then some false else some true
set_option maxRecDepth 100000 in
set_option maxHeartbeats 4000000 in
theorem c_J1_canEncode_9a6ad (l : Launch) (D : va_G) (cy : Nat → ClassId) (ad : (Nat → Nat) × (Nat → Nat)) (p0 : Int32) {q : Bool} (hf : f_J1_canEncode_9a6ad p0 = some q) : CM l yJ1_canEncode_9a6ad cJ1_canEncode_9a6ad 1 (some .boolean) rmJ1_canEncode_9a6ad D cy ad [.int p0] [] (some (.int (b2i q))) [] := by
  refine cm_of (lv0 := [(0, .int p0)]) (by decide) (Nat.le_of_ble_eq_true rfl) rfl ?_
  intro p e s m args below meth c A X hr hn
  have X : gK p s m args meth c A D cy ad cJ1_canEncode_9a6ad 1 RJ1 := X
  unfold f_J1_canEncode_9a6ad at hf
  refine g_iload_n X dJ1_canEncode_9a6ad_0 0 rfl rfl ?_
  refine g_if_lt X 15 dJ1_canEncode_9a6ad_1 (by decide) (fun c268 => ?_) (fun c268 => ?_)
  · have hf := opos c268 hf
    refine g_iconst X (0 : Int32) dJ1_canEncode_9a6ad_15 (by decide) ?_
    have hf := Option.some.inj hf
    subst hf
    exact g_zret (b := false) X hr dJ1_canEncode_9a6ad_16
  · have hf := oneg c268 hf
    refine g_iload_n X dJ1_canEncode_9a6ad_4 0 rfl rfl ?_
    refine g_sipush X (255 : Int32) dJ1_canEncode_9a6ad_5 (by decide) ?_
    refine g_icmp_gt X 15 dJ1_canEncode_9a6ad_8 (by decide) (fun c267 => ?_) (fun c267 => ?_)
    · have hf := opos c267 hf
      refine g_iconst X (0 : Int32) dJ1_canEncode_9a6ad_15 (by decide) ?_
      have hf := Option.some.inj hf
      subst hf
      exact g_zret (b := false) X hr dJ1_canEncode_9a6ad_16
    · have hf := oneg c267 hf
      refine g_iconst X (1 : Int32) dJ1_canEncode_9a6ad_11 (by decide) ?_
      refine g_goto X 16 dJ1_canEncode_9a6ad_12 (by decide) ?_
      have hf := Option.some.inj hf
      subst hf
      exact g_zret (b := true) X hr dJ1_canEncode_9a6ad_16
abbrev rmJ1_indexOfChar_4cfef : Room := ({ frames := 0, cells := 0, slots := 0, locals := 0 } : Room)
def f_J1_indexOfChar_4cfef_B7 (i : Nat) (x3 : Int32) (x4 : Int32) (z : Int32) : Option ((Int32) ⊕ ((Int32) ⊕ (Unit))) :=
  if x3 ≤ z then some (.inr (.inr ())) else if z < 0 ∨ (stB i).length ≤ z.toNatClampNeg then none else if ((stB i).getD z.toNatClampNeg 0) = x4 then some (.inr (.inl (z))) else some (.inl ((z + (1 : Int32))))
set_option maxRecDepth 100000 in
set_option maxHeartbeats 4000000 in
theorem b_J1_indexOfChar_4cfef_B7 {p : Program} {l : Launch} {e : Env} {s : State} {m : MethodId} {args : Array Value} {below : List Frame} {meth : Method} {c : Code} {A : Nat → Prop} {D : va_G} {cy : Nat → ClassId} {ad : (Nat → Nat) × (Nat → Nat)} {Q : State → Prop} (X : gK p s m args meth c A D cy ad cJ1_indexOfChar_4cfef 6 RJ1) (hr : meth.sig.returnType = (some .int)) {i : Nat} (hi : i < 5) (x3 : Int32) (x4 : Int32) (z : Int32) {q : (Int32) ⊕ ((Int32) ⊕ (Unit))} (hf : f_J1_indexOfChar_4cfef_B7 i x3 x4 z = some q) (K1 : ∀ s' : Int32, q = .inl s' → GW p l e rmJ1_indexOfChar_4cfef s m args below meth c A D 6 0 0 Q 7 [(0, .ref (ad.2 i)), (3, .int x3), (4, .int x4), (5, .int s')] [] []) (K2 : ∀ e' : Int32, q = .inr (.inl e') → GW p l e rmJ1_indexOfChar_4cfef s m args below meth c A D 6 0 0 Q 22 [(5, .int e')] [] []) (K3 : ∀ e' : Unit, q = .inr (.inr e') → GW p l e rmJ1_indexOfChar_4cfef s m args below meth c A D 6 0 0 Q 31 [] [] []) : GW p l e rmJ1_indexOfChar_4cfef s m args below meth c A D 6 0 0 Q 7 [(0, .ref (ad.2 i)), (3, .int x3), (4, .int x4), (5, .int z)] [] [] := by
  unfold f_J1_indexOfChar_4cfef_B7 at hf
  refine g_iload X dJ1_indexOfChar_4cfef_7 3 rfl ?_
  refine g_iload_n X dJ1_indexOfChar_4cfef_9 1 rfl rfl ?_
  refine g_icmp_ge X 31 dJ1_indexOfChar_4cfef_10 (by decide) (fun c273 => ?_) (fun c273 => ?_)
  · have hf := opos c273 hf
    refine g_sub [] (lv' := []) rfl ?_
    exact K3 () (Option.some.inj hf).symm
  · have hf := oneg c273 hf
    refine g_aload_n X dJ1_indexOfChar_4cfef_13 0 rfl rfl ?_
    refine g_iload X dJ1_indexOfChar_4cfef_14 3 rfl ?_
    obtain ⟨n271, hf⟩ := oguard hf
    refine g_sbaload X dJ1_indexOfChar_4cfef_16 hi n271 ?_
    refine g_iload X dJ1_indexOfChar_4cfef_17 2 rfl ?_
    refine g_icmp_ne X 25 dJ1_indexOfChar_4cfef_19 (by decide) (fun c272 => ?_) (fun c272 => ?_)
    · have hf := oneg c272 hf
      refine g_iinc (lv' := [(0, .ref (ad.2 i)), (3, .int x3), (4, .int x4), (5, .int (z + (1 : Int32)))]) (v := (1 : Int32)) X dJ1_indexOfChar_4cfef_25 3 rfl (by decide) [1, 2, 3, 0] (Nat.le_of_ble_eq_true rfl) rfl ?_
      refine g_goto X 7 dJ1_indexOfChar_4cfef_28 (by decide) ?_
      exact K1 ((z + (1 : Int32))) (Option.some.inj hf).symm
    · have hf := opos c272 hf
      refine g_sub [3] (lv' := [(5, .int z)]) rfl ?_
      exact K2 (z) (Option.some.inj hf).symm
set_option maxRecDepth 100000 in
set_option maxHeartbeats 4000000 in
theorem w_J1_indexOfChar_4cfef_B7 {p : Program} {l : Launch} {e : Env} {s : State} {m : MethodId} {args : Array Value} {below : List Frame} {meth : Method} {c : Code} {A : Nat → Prop} {D : va_G} {cy : Nat → ClassId} {ad : (Nat → Nat) × (Nat → Nat)} {Q : State → Prop} (X : gK p s m args meth c A D cy ad cJ1_indexOfChar_4cfef 6 RJ1) (hr : meth.sig.returnType = (some .int)) {i : Nat} (hi : i < 5) (x3 : Int32) (x4 : Int32) {n : Nat} {z : Int32} {q : (Int32) ⊕ (Unit)} (hf : itl (f_J1_indexOfChar_4cfef_B7 i x3 x4) n z = some q) (K2 : ∀ e' : Int32, q = .inl e' → GW p l e rmJ1_indexOfChar_4cfef s m args below meth c A D 6 0 0 Q 22 [(5, .int e')] [] []) (K3 : ∀ e' : Unit, q = .inr e' → GW p l e rmJ1_indexOfChar_4cfef s m args below meth c A D 6 0 0 Q 31 [] [] []) : GW p l e rmJ1_indexOfChar_4cfef s m args below meth c A D 6 0 0 Q 7 [(0, .ref (ad.2 i)), (3, .int x3), (4, .int x4), (5, .int z)] [] [] :=
  itl_ind (f := f_J1_indexOfChar_4cfef_B7 i x3 x4) (I := fun z => GW p l e rmJ1_indexOfChar_4cfef s m args below meth c A D 6 0 0 Q 7 [(0, .ref (ad.2 i)), (3, .int x3), (4, .int x4), (5, .int z)] [] []) (J := (fun q => (∀ e' : Int32, q = .inl e' → GW p l e rmJ1_indexOfChar_4cfef s m args below meth c A D 6 0 0 Q 22 [(5, .int e')] [] []) ∧ (∀ e' : Unit, q = .inr e' → GW p l e rmJ1_indexOfChar_4cfef s m args below meth c A D 6 0 0 Q 31 [] [] []))) (fun z x h k1 k2 => b_J1_indexOfChar_4cfef_B7 X hr hi x3 x4 z h (fun s' hs => k1 s' hs) (fun e' he => (k2 _ he).1 e' rfl) (fun e' he => (k2 _ he).2 e' rfl)) n z q hf ⟨K2, K3⟩
def f_J1_indexOfChar_4cfef (i : Nat) (p1 : Int32) (p2 : Int32) (p3 : Int32) : Option (Int32) :=
  (itl (f_J1_indexOfChar_4cfef_B7 i p3 (p1.toInt8.toInt32)) FU p2).bind (Sum.elim (fun q274e => some q274e) (fun q274e => some (-1 : Int32)))
set_option maxRecDepth 100000 in
set_option maxHeartbeats 4000000 in
theorem c_J1_indexOfChar_4cfef (l : Launch) (D : va_G) (cy : Nat → ClassId) (ad : (Nat → Nat) × (Nat → Nat)) (i : Nat) (p1 : Int32) (p2 : Int32) (p3 : Int32) (hi : i < 5) {q : Int32} (hf : f_J1_indexOfChar_4cfef i p1 p2 p3 = some q) : CM l yJ1_indexOfChar_4cfef cJ1_indexOfChar_4cfef 6 (some .int) rmJ1_indexOfChar_4cfef D cy ad [.ref (ad.2 i), .int p1, .int p2, .int p3] [] (some (.int q)) [] := by
  refine cm_of (lv0 := [(0, .ref (ad.2 i)), (1, .int p1), (2, .int p2), (3, .int p3)]) (by decide) (Nat.le_of_ble_eq_true rfl) rfl ?_
  intro p e s m args below meth c A X hr hn
  have X : gK p s m args meth c A D cy ad cJ1_indexOfChar_4cfef 6 RJ1 := X
  unfold f_J1_indexOfChar_4cfef at hf
  refine g_iload_n X dJ1_indexOfChar_4cfef_0 1 rfl rfl ?_
  refine g_i2b X dJ1_indexOfChar_4cfef_1 ?_
  refine g_istore (lv' := [(0, .ref (ad.2 i)), (1, .int p1), (2, .int p2), (3, .int p3), (4, .int (p1.toInt8.toInt32))]) X dJ1_indexOfChar_4cfef_2 [1, 2, 3, 4, 0] (Nat.le_of_ble_eq_true rfl) rfl ?_
  refine g_iload_n X dJ1_indexOfChar_4cfef_4 2 rfl rfl ?_
  refine g_istore (lv' := [(0, .ref (ad.2 i)), (1, .int p1), (2, .int p2), (3, .int p3), (4, .int (p1.toInt8.toInt32)), (5, .int p2)]) X dJ1_indexOfChar_4cfef_5 [1, 2, 3, 4, 5, 0] (Nat.le_of_ble_eq_true rfl) rfl ?_
  obtain ⟨q274, hq274, hf⟩ := obind hf
  refine g_sub [0, 3, 4, 5] (lv' := [(0, .ref (ad.2 i)), (3, .int p3), (4, .int (p1.toInt8.toInt32)), (5, .int p2)]) rfl ?_
  refine w_J1_indexOfChar_4cfef_B7 X hr hi p3 (p1.toInt8.toInt32) hq274 (fun q274e hq274e => ?_) (fun q274e hq274e => ?_)
  · subst hq274e
    have hf := sinl hf
    refine g_iload X dJ1_indexOfChar_4cfef_22 0 rfl ?_
    have hf := Option.some.inj hf
    subst hf
    exact g_iret X hr dJ1_indexOfChar_4cfef_24
  · subst hq274e
    have hf := sinr hf
    refine g_iconst X (-1 : Int32) dJ1_indexOfChar_4cfef_31 (by decide) ?_
    have hf := Option.some.inj hf
    subst hf
    exact g_iret X hr dJ1_indexOfChar_4cfef_32
abbrev rmJ1_indexOf_4cfef : Room := ({ frames := 1, cells := 0, slots := 0, locals := 25 } : Room)
def f_J1_indexOf_4cfef (i : Nat) (p1 : Int32) (p2 : Int32) (p3 : Int32) : Option (Int32) :=
  (f_J1_canEncode_9a6ad p1).bind (fun q279 => if (b2i q279) = 0 then some (-1 : Int32) else if (if p2 < (0 : Int32) then (0 : Int32) else p2) < (if (Int32.ofNat (stB i).length) < p3 then (Int32.ofNat (stB i).length) else p3) then (f_J1_indexOfChar_4cfef i p1 (if p2 < (0 : Int32) then (0 : Int32) else p2) (if (Int32.ofNat (stB i).length) < p3 then (Int32.ofNat (stB i).length) else p3)).bind (fun q280 => some q280) else some (-1 : Int32))
set_option maxRecDepth 100000 in
set_option maxHeartbeats 4000000 in
theorem c_J1_indexOf_4cfef (l : Launch) (D : va_G) (cy : Nat → ClassId) (ad : (Nat → Nat) × (Nat → Nat)) (i : Nat) (p1 : Int32) (p2 : Int32) (p3 : Int32) (hi : i < 5) {q : Int32} (hf : f_J1_indexOf_4cfef i p1 p2 p3 = some q) : CM l yJ1_indexOf_4cfef cJ1_indexOf_4cfef 4 (some .int) rmJ1_indexOf_4cfef D cy ad [.ref (ad.2 i), .int p1, .int p2, .int p3] [] (some (.int q)) [] := by
  refine cm_of (lv0 := [(0, .ref (ad.2 i)), (1, .int p1), (2, .int p2), (3, .int p3)]) (by decide) (Nat.le_of_ble_eq_true rfl) rfl ?_
  intro p e s m args below meth c A X hr hn
  have X : gK p s m args meth c A D cy ad cJ1_indexOf_4cfef 4 RJ1 := X
  unfold f_J1_indexOf_4cfef at hf
  refine g_iload_n X dJ1_indexOf_4cfef_0 1 rfl rfl ?_
  obtain ⟨q279, hq279, hf⟩ := obind hf
  refine g_callS (gs' := []) (rest := []) X dJ1_indexOf_4cfef_1 (c_J1_canEncode_9a6ad l D cy ad p1 hq279) mf_J1_canEncode_9a6ad ms_J1_canEncode_9a6ad lkm_J1_88 ⟨(Nat.le_of_ble_eq_true rfl), (Nat.le_of_ble_eq_true rfl), (Nat.le_of_ble_eq_true rfl), (Nat.le_of_ble_eq_true rfl)⟩ [] _ (List.Perm.refl _ : ([] : List Nat).Perm (List.range 0)) rfl (List.Perm.refl _ : ([] : List Nat).Perm (List.range 0)) rfl (Nat.le_of_ble_eq_true rfl) rfl ?_
  refine g_if_ne X 9 dJ1_indexOf_4cfef_4 (by decide) (fun c282 => ?_) (fun c282 => ?_)
  · have hf := oneg c282 hf
    refine g_iload_n X dJ1_indexOf_4cfef_9 2 rfl rfl ?_
    refine g_iconst X (0 : Int32) dJ1_indexOf_4cfef_10 (by decide) ?_
    refine g_mmax X dJ1_indexOf_4cfef_11 lkm_J1_92 mw_max ⟨(Nat.le_of_ble_eq_true rfl), (Nat.le_of_ble_eq_true rfl), (Nat.le_of_ble_eq_true rfl), (Nat.le_of_ble_eq_true rfl)⟩ ?_
    refine g_istore_n (lv' := [(0, .ref (ad.2 i)), (1, .int p1), (2, .int (if p2 < (0 : Int32) then (0 : Int32) else p2)), (3, .int p3)]) X dJ1_indexOf_4cfef_14 [1, 2, 0, 3] rfl (Nat.le_of_ble_eq_true rfl) rfl ?_
    refine g_iload_n X dJ1_indexOf_4cfef_15 3 rfl rfl ?_
    refine g_aload_n X dJ1_indexOf_4cfef_16 0 rfl rfl ?_
    refine g_slen X dJ1_indexOf_4cfef_17 hi ?_
    refine g_mmin X dJ1_indexOf_4cfef_18 lkm_J1_38 mw_min ⟨(Nat.le_of_ble_eq_true rfl), (Nat.le_of_ble_eq_true rfl), (Nat.le_of_ble_eq_true rfl), (Nat.le_of_ble_eq_true rfl)⟩ ?_
    refine g_istore_n (lv' := [(0, .ref (ad.2 i)), (1, .int p1), (2, .int (if p2 < (0 : Int32) then (0 : Int32) else p2)), (3, .int (if (Int32.ofNat (stB i).length) < p3 then (Int32.ofNat (stB i).length) else p3))]) X dJ1_indexOf_4cfef_21 [1, 2, 3, 0] rfl (Nat.le_of_ble_eq_true rfl) rfl ?_
    refine g_iload_n X dJ1_indexOf_4cfef_22 2 rfl rfl ?_
    refine g_iload_n X dJ1_indexOf_4cfef_23 3 rfl rfl ?_
    refine g_icmp_lt X 29 dJ1_indexOf_4cfef_24 (by decide) (fun c281 => ?_) (fun c281 => ?_)
    · have hf := opos c281 hf
      refine g_aload_n X dJ1_indexOf_4cfef_29 0 rfl rfl ?_
      refine g_iload_n X dJ1_indexOf_4cfef_30 1 rfl rfl ?_
      refine g_iload_n X dJ1_indexOf_4cfef_31 2 rfl rfl ?_
      refine g_iload_n X dJ1_indexOf_4cfef_32 3 rfl rfl ?_
      obtain ⟨q280, hq280, hf⟩ := obind hf
      refine g_callS (gs' := []) (rest := []) X dJ1_indexOf_4cfef_33 (c_J1_indexOfChar_4cfef l D cy ad i p1 (if p2 < (0 : Int32) then (0 : Int32) else p2) (if (Int32.ofNat (stB i).length) < p3 then (Int32.ofNat (stB i).length) else p3) hi hq280) mf_J1_indexOfChar_4cfef ms_J1_indexOfChar_4cfef lkm_J1_95 ⟨(Nat.le_of_ble_eq_true rfl), (Nat.le_of_ble_eq_true rfl), (Nat.le_of_ble_eq_true rfl), (Nat.le_of_ble_eq_true rfl)⟩ [] _ (List.Perm.refl _ : ([] : List Nat).Perm (List.range 0)) rfl (List.Perm.refl _ : ([] : List Nat).Perm (List.range 0)) rfl (Nat.le_of_ble_eq_true rfl) rfl ?_
      have hf := Option.some.inj hf
      subst hf
      exact g_iret X hr dJ1_indexOf_4cfef_36
    · have hf := oneg c281 hf
      refine g_iconst X (-1 : Int32) dJ1_indexOf_4cfef_27 (by decide) ?_
      have hf := Option.some.inj hf
      subst hf
      exact g_iret X hr dJ1_indexOf_4cfef_28
  · have hf := opos c282 hf
    refine g_iconst X (-1 : Int32) dJ1_indexOf_4cfef_7 (by decide) ?_
    have hf := Option.some.inj hf
    subst hf
    exact g_iret X hr dJ1_indexOf_4cfef_8
abbrev rmJ0_indexOf_7cf53 : Room := ({ frames := 2, cells := 0, slots := 0, locals := 48 } : Room)
def f_J0_indexOf_7cf53 (i : Nat) (p1 : Int32) (p2 : Int32) : Option (Int32) :=
  (f_J0_isLatin1_aae02 i).bind (fun q289 => if (b2i q289) = 0 then none else (f_J0_length_8abf5 i).bind (fun q290 => (f_J1_indexOf_4cfef i p1 p2 q290).bind (fun q291 => some q291)))
set_option maxRecDepth 100000 in
set_option maxHeartbeats 4000000 in
theorem c_J0_indexOf_7cf53 (l : Launch) (D : va_G) (cy : Nat → ClassId) (ad : (Nat → Nat) × (Nat → Nat)) (i : Nat) (p1 : Int32) (p2 : Int32) (hi : i < 5) {q : Int32} (hf : f_J0_indexOf_7cf53 i p1 p2 = some q) : CM l yJ0_indexOf_7cf53 cJ0_indexOf_7cf53 3 (some .int) rmJ0_indexOf_7cf53 D cy ad [.ref (ad.1 i), .int p1, .int p2] [] (some (.int q)) [] := by
  refine cm_of (lv0 := [(0, .ref (ad.1 i)), (1, .int p1), (2, .int p2)]) (by decide) (Nat.le_of_ble_eq_true rfl) rfl ?_
  intro p e s m args below meth c A X hr hn
  have X : gK p s m args meth c A D cy ad cJ0_indexOf_7cf53 3 RJ0 := X
  unfold f_J0_indexOf_7cf53 at hf
  refine g_aload_n X dJ0_indexOf_7cf53_0 0 rfl rfl ?_
  obtain ⟨q289, hq289, hf⟩ := obind hf
  refine g_callVS (gs' := []) (rest := []) X hi dJ0_indexOf_7cf53_1 (c_J0_isLatin1_aae02 l D cy ad i hi hq289) mf_J0_isLatin1_aae02 mv_J0_isLatin1_aae02 lkm_J0_492 ⟨(Nat.le_of_ble_eq_true rfl), (Nat.le_of_ble_eq_true rfl), (Nat.le_of_ble_eq_true rfl), (Nat.le_of_ble_eq_true rfl)⟩ rfl [] _ (List.Perm.refl _ : ([] : List Nat).Perm (List.range 0)) rfl (List.Perm.refl _ : ([] : List Nat).Perm (List.range 0)) rfl (Nat.le_of_ble_eq_true rfl) rfl ?_
  refine g_if_eq X 23 dJ0_indexOf_7cf53_4 (by decide) (fun c292 => ?_) (fun c292 => ?_)
  · have hf := opos c292 hf
    cases hf
  · have hf := oneg c292 hf
    refine g_aload_n X dJ0_indexOf_7cf53_7 0 rfl rfl ?_
    refine g_svalue X dJ0_indexOf_7cf53_8 hi lks_9 ?_
    refine g_iload_n X dJ0_indexOf_7cf53_11 1 rfl rfl ?_
    refine g_iload_n X dJ0_indexOf_7cf53_12 2 rfl rfl ?_
    refine g_aload_n X dJ0_indexOf_7cf53_13 0 rfl rfl ?_
    obtain ⟨q290, hq290, hf⟩ := obind hf
    refine g_callVS (gs' := []) (rest := [.int p2, .int p1, .ref (ad.2 i)]) X hi dJ0_indexOf_7cf53_14 (c_J0_length_8abf5 l D cy ad i hi hq290) mf_J0_length_8abf5 mv_J0_length_8abf5 lkm_J0_505 ⟨(Nat.le_of_ble_eq_true rfl), (Nat.le_of_ble_eq_true rfl), (Nat.le_of_ble_eq_true rfl), (Nat.le_of_ble_eq_true rfl)⟩ rfl [] _ (List.Perm.refl _ : ([] : List Nat).Perm (List.range 0)) rfl (List.Perm.refl _ : ([] : List Nat).Perm (List.range 0)) rfl (Nat.le_of_ble_eq_true rfl) rfl ?_
    obtain ⟨q291, hq291, hf⟩ := obind hf
    refine g_callS (gs' := []) (rest := []) X dJ0_indexOf_7cf53_17 (c_J1_indexOf_4cfef l D cy ad i p1 p2 q290 hi hq291) mf_J1_indexOf_4cfef ms_J1_indexOf_4cfef lkm_J0_637 ⟨(Nat.le_of_ble_eq_true rfl), (Nat.le_of_ble_eq_true rfl), (Nat.le_of_ble_eq_true rfl), (Nat.le_of_ble_eq_true rfl)⟩ [] _ (List.Perm.refl _ : ([] : List Nat).Perm (List.range 0)) rfl (List.Perm.refl _ : ([] : List Nat).Perm (List.range 0)) rfl (Nat.le_of_ble_eq_true rfl) rfl ?_
    refine g_goto X 36 dJ0_indexOf_7cf53_20 (by decide) ?_
    have hf := Option.some.inj hf
    subst hf
    exact g_iret X hr dJ0_indexOf_7cf53_36
abbrev rmJ0_indexOf_0f7a4 : Room := ({ frames := 3, cells := 0, slots := 0, locals := 70 } : Room)
def f_J0_indexOf_0f7a4 (i : Nat) (p1 : Int32) : Option (Int32) :=
  (f_J0_indexOf_7cf53 i p1 (0 : Int32)).bind (fun q295 => some q295)
set_option maxRecDepth 100000 in
set_option maxHeartbeats 4000000 in
theorem c_J0_indexOf_0f7a4 (l : Launch) (D : va_G) (cy : Nat → ClassId) (ad : (Nat → Nat) × (Nat → Nat)) (i : Nat) (p1 : Int32) (hi : i < 5) {q : Int32} (hf : f_J0_indexOf_0f7a4 i p1 = some q) : CM l yJ0_indexOf_0f7a4 cJ0_indexOf_0f7a4 2 (some .int) rmJ0_indexOf_0f7a4 D cy ad [.ref (ad.1 i), .int p1] [] (some (.int q)) [] := by
  refine cm_of (lv0 := [(0, .ref (ad.1 i)), (1, .int p1)]) (by decide) (Nat.le_of_ble_eq_true rfl) rfl ?_
  intro p e s m args below meth c A X hr hn
  have X : gK p s m args meth c A D cy ad cJ0_indexOf_0f7a4 2 RJ0 := X
  unfold f_J0_indexOf_0f7a4 at hf
  refine g_aload_n X dJ0_indexOf_0f7a4_0 0 rfl rfl ?_
  refine g_iload_n X dJ0_indexOf_0f7a4_1 1 rfl rfl ?_
  refine g_iconst X (0 : Int32) dJ0_indexOf_0f7a4_2 (by decide) ?_
  obtain ⟨q295, hq295, hf⟩ := obind hf
  refine g_callVS (gs' := []) (rest := []) X hi dJ0_indexOf_0f7a4_3 (c_J0_indexOf_7cf53 l D cy ad i p1 (0 : Int32) hi hq295) mf_J0_indexOf_7cf53 mv_J0_indexOf_7cf53 lkm_J0_633 ⟨(Nat.le_of_ble_eq_true rfl), (Nat.le_of_ble_eq_true rfl), (Nat.le_of_ble_eq_true rfl), (Nat.le_of_ble_eq_true rfl)⟩ rfl [] _ (List.Perm.refl _ : ([] : List Nat).Perm (List.range 0)) rfl (List.Perm.refl _ : ([] : List Nat).Perm (List.range 0)) rfl (Nat.le_of_ble_eq_true rfl) rfl ?_
  have hf := Option.some.inj hf
  subst hf
  exact g_iret X hr dJ0_indexOf_0f7a4_6
abbrev rmX6_readOneOf : Room := ({ frames := 4, cells := 0, slots := 0, locals := 91 } : Room)
def f_X6_readOneOf_b20 (i : Nat) (v0 : TXv) (y0 : Int32) : Option (Int32 × TXv) :=
  if 0 ≤ y0 then some (y0, (v0.1, (v0.2.1 + (1 : Int32)), v0.2.2.1, v0.2.2.2.1, v0.2.2.2.2.1, v0.2.2.2.2.2.1, v0.2.2.2.2.2.2.1, v0.2.2.2.2.2.2.2.1, v0.2.2.2.2.2.2.2.2)) else some ((0 : Int32), (v0.1, v0.2.1, (1 : Int32), v0.2.2.2.1, v0.2.2.2.2.1, v0.2.2.2.2.2.1, v0.2.2.2.2.2.2.1, v0.2.2.2.2.2.2.2.1, v0.2.2.2.2.2.2.2.2))
set_option maxRecDepth 100000 in
set_option maxHeartbeats 4000000 in
theorem j_X6_readOneOf_b20 {p : Program} {l : Launch} {e : Env} {s : State} {m : MethodId} {args : Array Value} {below : List Frame} {meth : Method} {c : Code} {A : Nat → Prop} {D : va_G} {cy : Nat → ClassId} {ad : (Nat → Nat) × (Nat → Nat)} (X : gK p s m args meth c A D cy ad cX6_readOneOf 4 RX6) (hr : meth.sig.returnType = (some .int)) {i : Nat} (hi : i < 5) {h0 h1 : Nat} (v0 : TXv) (y0 : Int32) {q : Int32 × TXv} (hf : f_X6_readOneOf_b20 i v0 y0 = some q) : GW p l e rmX6_readOneOf s m args below meth c A D 4 0 0 (MQ below (cmQ D cy A (some (.int q.1)) ([TX cy h0 h1 q.2] : List va_W).flatten) args s 0 0 A) 20 [(0, .ref h0)] [.int y0] [TX cy h0 h1 v0] := by
  unfold f_X6_readOneOf_b20 at hf
  refine g_istore_n (lv' := [(0, .ref h0), (3, .int y0)]) X dX6_readOneOf_20 [1, 0] rfl (Nat.le_of_ble_eq_true rfl) rfl ?_
  refine g_iload_n X dX6_readOneOf_21 1 rfl rfl ?_
  refine g_if_ge X 32 dX6_readOneOf_22 (by decide) (fun c302 => ?_) (fun c302 => ?_)
  · have hf := opos c302 hf
    refine g_aload_n X dX6_readOneOf_32 0 rfl rfl ?_
    refine g_dup X dX6_readOneOf_33 rfl ?_
    refine g_get X dX6_readOneOf_34 ck_X6 0 0 2 rfl rfl (Nat.le_of_ble_eq_true rfl) lkf_X6_23 rfl ?_
    refine g_iconst X (1 : Int32) dX6_readOneOf_37 (by decide) ?_
    refine g_iadd X dX6_readOneOf_38 ?_
    refine g_put (gs' := [TX cy h0 h1 (v0.1, (v0.2.1 + (1 : Int32)), v0.2.2.1, v0.2.2.2.1, v0.2.2.2.2.1, v0.2.2.2.2.2.1, v0.2.2.2.2.2.2.1, v0.2.2.2.2.2.2.2.1, v0.2.2.2.2.2.2.2.2)]) X dX6_readOneOf_39 ck_X6 ct_X6 0 0 2 rfl rfl (Nat.le_of_ble_eq_true rfl) lkf_X6_23 rfl rfl rfl (Nat.le_of_ble_eq_true rfl) rfl ?_
    refine g_iload_n X dX6_readOneOf_42 1 rfl rfl ?_
    have hf := Option.some.inj hf
    subst hf
    exact g_iret X hr dX6_readOneOf_43
  · have hf := oneg c302 hf
    refine g_aload_n X dX6_readOneOf_25 0 rfl rfl ?_
    refine g_iconst X (1 : Int32) dX6_readOneOf_26 (by decide) ?_
    refine g_put (gs' := [TX cy h0 h1 (v0.1, v0.2.1, (1 : Int32), v0.2.2.2.1, v0.2.2.2.2.1, v0.2.2.2.2.2.1, v0.2.2.2.2.2.2.1, v0.2.2.2.2.2.2.2.1, v0.2.2.2.2.2.2.2.2)]) X dX6_readOneOf_27 ck_X6 ct_X6 0 0 3 rfl rfl (Nat.le_of_ble_eq_true rfl) lkf_X6_19 rfl rfl rfl (Nat.le_of_ble_eq_true rfl) rfl ?_
    refine g_iconst X (0 : Int32) dX6_readOneOf_30 (by decide) ?_
    have hf := Option.some.inj hf
    subst hf
    exact g_iret X hr dX6_readOneOf_31
def f_X6_readOneOf (i : Nat) (v0 : TXv) : Option (Int32 × TXv) :=
  (f_X6_nextSign v0).bind (fun q300 => if q300 = (-1 : Int32) then f_X6_readOneOf_b20 i v0 (-1 : Int32) else (f_J0_indexOf_0f7a4 i ((q300.toUInt32 % 65536).toInt32)).bind (fun q301 => f_X6_readOneOf_b20 i v0 q301))
set_option maxRecDepth 100000 in
set_option maxHeartbeats 4000000 in
theorem c_X6_readOneOf (l : Launch) (D : va_G) (cy : Nat → ClassId) (ad : (Nat → Nat) × (Nat → Nat)) (h0 : Nat) (h1 : Nat) (i : Nat) (v0 : TXv) (hi : i < 5) {q : Int32 × TXv} (hf : f_X6_readOneOf i v0 = some q) : CM l yX6_readOneOf cX6_readOneOf 4 (some .int) rmX6_readOneOf D cy ad [.ref h0, .ref (ad.1 i)] [TX cy h0 h1 v0] (some (.int q.1)) [TX cy h0 h1 q.2] := by
  refine cm_of (lv0 := [(0, .ref h0), (1, .ref (ad.1 i))]) (by decide) (Nat.le_of_ble_eq_true rfl) rfl ?_
  intro p e s m args below meth c A X hr hn
  have X : gK p s m args meth c A D cy ad cX6_readOneOf 4 RX6 := X
  unfold f_X6_readOneOf at hf
  refine g_aload_n X dX6_readOneOf_0 0 rfl rfl ?_
  obtain ⟨q300, hq300, hf⟩ := obind hf
  refine g_callV (gs' := [TX cy h0 h1 v0]) (rest := []) X dX6_readOneOf_1 (c_X6_nextSign l D cy ad h0 h1 v0 hq300) mf_X6_nextSign mv_X6_nextSign lkm_X6_70 ⟨(Nat.le_of_ble_eq_true rfl), (Nat.le_of_ble_eq_true rfl), (Nat.le_of_ble_eq_true rfl), (Nat.le_of_ble_eq_true rfl)⟩ 0 0 rfl rfl rfl rfl [0] _ (by decide : [0].Perm (List.range 1)) rfl (by decide : [0].Perm (List.range 1)) rfl (Nat.le_of_ble_eq_true rfl) rfl ?_
  refine g_istore_n (lv' := [(0, .ref h0), (1, .ref (ad.1 i)), (2, .int q300)]) X dX6_readOneOf_4 [1, 2, 0] rfl (Nat.le_of_ble_eq_true rfl) rfl ?_
  refine g_iload_n X dX6_readOneOf_5 2 rfl rfl ?_
  refine g_iconst X (-1 : Int32) dX6_readOneOf_6 (by decide) ?_
  refine g_icmp_ne X 14 dX6_readOneOf_7 (by decide) (fun c303 => ?_) (fun c303 => ?_)
  · have hf := oneg c303 hf
    refine g_aload_n X dX6_readOneOf_14 1 rfl rfl ?_
    refine g_iload_n X dX6_readOneOf_15 2 rfl rfl ?_
    refine g_i2c X dX6_readOneOf_16 ?_
    obtain ⟨q301, hq301, hf⟩ := obind hf
    refine g_callVS (gs' := [TX cy h0 h1 v0]) (rest := []) X hi dX6_readOneOf_17 (c_J0_indexOf_0f7a4 l D cy ad i ((q300.toUInt32 % 65536).toInt32) hi hq301) mf_J0_indexOf_0f7a4 mv_J0_indexOf_0f7a4 lkm_X6_73 ⟨(Nat.le_of_ble_eq_true rfl), (Nat.le_of_ble_eq_true rfl), (Nat.le_of_ble_eq_true rfl), (Nat.le_of_ble_eq_true rfl)⟩ rfl [0] _ (by decide : [0].Perm (List.range 1)) rfl (by decide : [0].Perm (List.range 1)) rfl (Nat.le_of_ble_eq_true rfl) rfl ?_
    refine g_sub [0] (lv' := [(0, .ref h0)]) rfl ?_
    exact j_X6_readOneOf_b20 X hr hi v0 q301 hf
  · have hf := opos c303 hf
    refine g_iconst X (-1 : Int32) dX6_readOneOf_10 (by decide) ?_
    refine g_goto X 20 dX6_readOneOf_11 (by decide) ?_
    refine g_sub [0] (lv' := [(0, .ref h0)]) rfl ?_
    exact j_X6_readOneOf_b20 X hr hi v0 (-1 : Int32) hf
abbrev rmX6_readDigit : Room := ({ frames := 2, cells := 0, slots := 0, locals := 40 } : Room)
def f_X6_readDigit_b18 (v0 : TXv) (x1 : Int32) : Option (Int32 × TXv) :=
  some (x1, (v0.1, v0.2.1, (1 : Int32), v0.2.2.2.1, v0.2.2.2.2.1, v0.2.2.2.2.2.1, v0.2.2.2.2.2.2.1, v0.2.2.2.2.2.2.2.1, v0.2.2.2.2.2.2.2.2))
set_option maxRecDepth 100000 in
set_option maxHeartbeats 4000000 in
theorem j_X6_readDigit_b18 {p : Program} {l : Launch} {e : Env} {s : State} {m : MethodId} {args : Array Value} {below : List Frame} {meth : Method} {c : Code} {A : Nat → Prop} {D : va_G} {cy : Nat → ClassId} {ad : (Nat → Nat) × (Nat → Nat)} (X : gK p s m args meth c A D cy ad cX6_readDigit 4 RX6) (hr : meth.sig.returnType = (some .int)) {h0 h1 : Nat} (v0 : TXv) (x1 : Int32) {q : Int32 × TXv} (hf : f_X6_readDigit_b18 v0 x1 = some q) : GW p l e rmX6_readDigit s m args below meth c A D 4 0 0 (MQ below (cmQ D cy A (some (.int q.1)) ([TX cy h0 h1 q.2] : List va_W).flatten) args s 0 0 A) 18 [(0, .ref h0), (1, .int x1)] [] [TX cy h0 h1 v0] := by
  unfold f_X6_readDigit_b18 at hf
  refine g_aload_n X dX6_readDigit_18 0 rfl rfl ?_
  refine g_iconst X (1 : Int32) dX6_readDigit_19 (by decide) ?_
  refine g_put (gs' := [TX cy h0 h1 (v0.1, v0.2.1, (1 : Int32), v0.2.2.2.1, v0.2.2.2.2.1, v0.2.2.2.2.2.1, v0.2.2.2.2.2.2.1, v0.2.2.2.2.2.2.2.1, v0.2.2.2.2.2.2.2.2)]) X dX6_readDigit_20 ck_X6 ct_X6 0 0 3 rfl rfl (Nat.le_of_ble_eq_true rfl) lkf_X6_19 rfl rfl rfl (Nat.le_of_ble_eq_true rfl) rfl ?_
  refine g_iload_n X dX6_readDigit_23 1 rfl rfl ?_
  have hf := Option.some.inj hf
  subst hf
  exact g_iret X hr dX6_readDigit_24
def f_X6_readDigit (v0 : TXv) (p1 : Int32) (p2 : Int32) : Option (Int32 × TXv) :=
  (f_X6_nextSign v0).bind (fun q306 => if (q306 - (48 : Int32)) < p1 then f_X6_readDigit_b18 v0 p1 else if (q306 - (48 : Int32)) ≤ p2 then some ((q306 - (48 : Int32)), (v0.1, (v0.2.1 + (1 : Int32)), v0.2.2.1, v0.2.2.2.1, v0.2.2.2.2.1, v0.2.2.2.2.2.1, v0.2.2.2.2.2.2.1, v0.2.2.2.2.2.2.2.1, v0.2.2.2.2.2.2.2.2)) else f_X6_readDigit_b18 v0 p1)
set_option maxRecDepth 100000 in
set_option maxHeartbeats 4000000 in
theorem c_X6_readDigit (l : Launch) (D : va_G) (cy : Nat → ClassId) (ad : (Nat → Nat) × (Nat → Nat)) (h0 : Nat) (h1 : Nat) (v0 : TXv) (p1 : Int32) (p2 : Int32) {q : Int32 × TXv} (hf : f_X6_readDigit v0 p1 p2 = some q) : CM l yX6_readDigit cX6_readDigit 4 (some .int) rmX6_readDigit D cy ad [.ref h0, .int p1, .int p2] [TX cy h0 h1 v0] (some (.int q.1)) [TX cy h0 h1 q.2] := by
  refine cm_of (lv0 := [(0, .ref h0), (1, .int p1), (2, .int p2)]) (by decide) (Nat.le_of_ble_eq_true rfl) rfl ?_
  intro p e s m args below meth c A X hr hn
  have X : gK p s m args meth c A D cy ad cX6_readDigit 4 RX6 := X
  unfold f_X6_readDigit at hf
  refine g_aload_n X dX6_readDigit_0 0 rfl rfl ?_
  obtain ⟨q306, hq306, hf⟩ := obind hf
  refine g_callV (gs' := [TX cy h0 h1 v0]) (rest := []) X dX6_readDigit_1 (c_X6_nextSign l D cy ad h0 h1 v0 hq306) mf_X6_nextSign mv_X6_nextSign lkm_X6_70 ⟨(Nat.le_of_ble_eq_true rfl), (Nat.le_of_ble_eq_true rfl), (Nat.le_of_ble_eq_true rfl), (Nat.le_of_ble_eq_true rfl)⟩ 0 0 rfl rfl rfl rfl [0] _ (by decide : [0].Perm (List.range 1)) rfl (by decide : [0].Perm (List.range 1)) rfl (Nat.le_of_ble_eq_true rfl) rfl ?_
  refine g_bipush X (48 : Int32) dX6_readDigit_4 (by decide) ?_
  refine g_isub X dX6_readDigit_6 ?_
  refine g_istore_n (lv' := [(0, .ref h0), (1, .int p1), (2, .int p2), (3, .int (q306 - (48 : Int32)))]) X dX6_readDigit_7 [1, 2, 3, 0] rfl (Nat.le_of_ble_eq_true rfl) rfl ?_
  refine g_iload_n X dX6_readDigit_8 3 rfl rfl ?_
  refine g_iload_n X dX6_readDigit_9 1 rfl rfl ?_
  refine g_icmp_lt X 18 dX6_readDigit_10 (by decide) (fun c308 => ?_) (fun c308 => ?_)
  · have hf := opos c308 hf
    refine g_sub [0, 1] (lv' := [(0, .ref h0), (1, .int p1)]) rfl ?_
    exact j_X6_readDigit_b18 X hr v0 p1 hf
  · have hf := oneg c308 hf
    refine g_iload_n X dX6_readDigit_13 3 rfl rfl ?_
    refine g_iload_n X dX6_readDigit_14 2 rfl rfl ?_
    refine g_icmp_le X 25 dX6_readDigit_15 (by decide) (fun c307 => ?_) (fun c307 => ?_)
    · have hf := opos c307 hf
      refine g_aload_n X dX6_readDigit_25 0 rfl rfl ?_
      refine g_dup X dX6_readDigit_26 rfl ?_
      refine g_get X dX6_readDigit_27 ck_X6 0 0 2 rfl rfl (Nat.le_of_ble_eq_true rfl) lkf_X6_23 rfl ?_
      refine g_iconst X (1 : Int32) dX6_readDigit_30 (by decide) ?_
      refine g_iadd X dX6_readDigit_31 ?_
      refine g_put (gs' := [TX cy h0 h1 (v0.1, (v0.2.1 + (1 : Int32)), v0.2.2.1, v0.2.2.2.1, v0.2.2.2.2.1, v0.2.2.2.2.2.1, v0.2.2.2.2.2.2.1, v0.2.2.2.2.2.2.2.1, v0.2.2.2.2.2.2.2.2)]) X dX6_readDigit_32 ck_X6 ct_X6 0 0 2 rfl rfl (Nat.le_of_ble_eq_true rfl) lkf_X6_23 rfl rfl rfl (Nat.le_of_ble_eq_true rfl) rfl ?_
      refine g_iload_n X dX6_readDigit_35 3 rfl rfl ?_
      have hf := Option.some.inj hf
      subst hf
      exact g_iret X hr dX6_readDigit_36
    · have hf := oneg c307 hf
      refine g_sub [0, 1] (lv' := [(0, .ref h0), (1, .int p1)]) rfl ?_
      exact j_X6_readDigit_b18 X hr v0 p1 hf
abbrev rmX6_readNumber : Room := ({ frames := 3, cells := 0, slots := 0, locals := 63 } : Room)
def f_X6_readNumber (v0 : TXv) (p1 : Int32) (p2 : Int32) : Option (Int32 × TXv) :=
  (f_X6_readDigit v0 (p1 / (10 : Int32)) (p2 / (10 : Int32))).bind (fun q313 => (f_X6_readDigit q313.2 (if (0 : Int32) < (p1 - ((10 : Int32) * q313.1)) then (p1 - ((10 : Int32) * q313.1)) else (0 : Int32)) (if (p2 - ((10 : Int32) * q313.1)) < (9 : Int32) then (p2 - ((10 : Int32) * q313.1)) else (9 : Int32))).bind (fun q314 => some ((((10 : Int32) * q313.1) + q314.1), q314.2)))
set_option maxRecDepth 100000 in
set_option maxHeartbeats 4000000 in
theorem c_X6_readNumber (l : Launch) (D : va_G) (cy : Nat → ClassId) (ad : (Nat → Nat) × (Nat → Nat)) (h0 : Nat) (h1 : Nat) (v0 : TXv) (p1 : Int32) (p2 : Int32) {q : Int32 × TXv} (hf : f_X6_readNumber v0 p1 p2 = some q) : CM l yX6_readNumber cX6_readNumber 5 (some .int) rmX6_readNumber D cy ad [.ref h0, .int p1, .int p2] [TX cy h0 h1 v0] (some (.int q.1)) [TX cy h0 h1 q.2] := by
  refine cm_of (lv0 := [(0, .ref h0), (1, .int p1), (2, .int p2)]) (by decide) (Nat.le_of_ble_eq_true rfl) rfl ?_
  intro p e s m args below meth c A X hr hn
  have X : gK p s m args meth c A D cy ad cX6_readNumber 5 RX6 := X
  unfold f_X6_readNumber at hf
  refine g_aload_n X dX6_readNumber_0 0 rfl rfl ?_
  refine g_iload_n X dX6_readNumber_1 1 rfl rfl ?_
  refine g_bipush X (10 : Int32) dX6_readNumber_2 (by decide) ?_
  refine g_idiv X dX6_readNumber_4 (by decide) ?_
  refine g_iload_n X dX6_readNumber_5 2 rfl rfl ?_
  refine g_bipush X (10 : Int32) dX6_readNumber_6 (by decide) ?_
  refine g_idiv X dX6_readNumber_8 (by decide) ?_
  obtain ⟨q313, hq313, hf⟩ := obind hf
  refine g_callV (gs' := [TX cy h0 h1 q313.2]) (rest := []) X dX6_readNumber_9 (c_X6_readDigit l D cy ad h0 h1 v0 (p1 / (10 : Int32)) (p2 / (10 : Int32)) hq313) mf_X6_readDigit mv_X6_readDigit lkm_X6_41 ⟨(Nat.le_of_ble_eq_true rfl), (Nat.le_of_ble_eq_true rfl), (Nat.le_of_ble_eq_true rfl), (Nat.le_of_ble_eq_true rfl)⟩ 0 0 rfl rfl rfl rfl [0] _ (by decide : [0].Perm (List.range 1)) rfl (by decide : [0].Perm (List.range 1)) rfl (Nat.le_of_ble_eq_true rfl) rfl ?_
  refine g_istore_n (lv' := [(0, .ref h0), (1, .int p1), (2, .int p2), (3, .int q313.1)]) X dX6_readNumber_12 [1, 2, 3, 0] rfl (Nat.le_of_ble_eq_true rfl) rfl ?_
  refine g_aload_n X dX6_readNumber_13 0 rfl rfl ?_
  refine g_iconst X (0 : Int32) dX6_readNumber_14 (by decide) ?_
  refine g_iload_n X dX6_readNumber_15 1 rfl rfl ?_
  refine g_bipush X (10 : Int32) dX6_readNumber_16 (by decide) ?_
  refine g_iload_n X dX6_readNumber_18 3 rfl rfl ?_
  refine g_imul X dX6_readNumber_19 ?_
  refine g_isub X dX6_readNumber_20 ?_
  refine g_mmax X dX6_readNumber_21 lkm_X6_79 mw_max ⟨(Nat.le_of_ble_eq_true rfl), (Nat.le_of_ble_eq_true rfl), (Nat.le_of_ble_eq_true rfl), (Nat.le_of_ble_eq_true rfl)⟩ ?_
  refine g_bipush X (9 : Int32) dX6_readNumber_24 (by decide) ?_
  refine g_iload_n X dX6_readNumber_26 2 rfl rfl ?_
  refine g_bipush X (10 : Int32) dX6_readNumber_27 (by decide) ?_
  refine g_iload_n X dX6_readNumber_29 3 rfl rfl ?_
  refine g_imul X dX6_readNumber_30 ?_
  refine g_isub X dX6_readNumber_31 ?_
  refine g_mmin X dX6_readNumber_32 lkm_X6_84 mw_min ⟨(Nat.le_of_ble_eq_true rfl), (Nat.le_of_ble_eq_true rfl), (Nat.le_of_ble_eq_true rfl), (Nat.le_of_ble_eq_true rfl)⟩ ?_
  obtain ⟨q314, hq314, hf⟩ := obind hf
  refine g_callV (gs' := [TX cy h0 h1 q314.2]) (rest := []) X dX6_readNumber_35 (c_X6_readDigit l D cy ad h0 h1 q313.2 (if (0 : Int32) < (p1 - ((10 : Int32) * q313.1)) then (p1 - ((10 : Int32) * q313.1)) else (0 : Int32)) (if (p2 - ((10 : Int32) * q313.1)) < (9 : Int32) then (p2 - ((10 : Int32) * q313.1)) else (9 : Int32)) hq314) mf_X6_readDigit mv_X6_readDigit lkm_X6_41 ⟨(Nat.le_of_ble_eq_true rfl), (Nat.le_of_ble_eq_true rfl), (Nat.le_of_ble_eq_true rfl), (Nat.le_of_ble_eq_true rfl)⟩ 0 0 rfl rfl rfl rfl [0] _ (by decide : [0].Perm (List.range 1)) rfl (by decide : [0].Perm (List.range 1)) rfl (Nat.le_of_ble_eq_true rfl) rfl ?_
  refine g_istore (lv' := [(0, .ref h0), (1, .int p1), (2, .int p2), (3, .int q313.1), (4, .int q314.1)]) X dX6_readNumber_38 [1, 2, 3, 4, 0] (Nat.le_of_ble_eq_true rfl) rfl ?_
  refine g_bipush X (10 : Int32) dX6_readNumber_40 (by decide) ?_
  refine g_iload_n X dX6_readNumber_42 3 rfl rfl ?_
  refine g_imul X dX6_readNumber_43 ?_
  refine g_iload X dX6_readNumber_44 4 rfl ?_
  refine g_iadd X dX6_readNumber_46 ?_
  have hf := Option.some.inj hf
  subst hf
  exact g_iret X hr dX6_readNumber_47
abbrev rmX6_readHead : Room := ({ frames := 5, cells := 0, slots := 0, locals := 114 } : Room)
def f_X6_readHead_b91 (v0 : TXv) (x3 : Int32) (y0 : Int32) (y1 : Int32) : Option (TXv) :=
  some (v0.1, v0.2.1, v0.2.2.1, v0.2.2.2.1, ((y1 * y0) + x3), v0.2.2.2.2.2.1, v0.2.2.2.2.2.2.1, v0.2.2.2.2.2.2.2.1, v0.2.2.2.2.2.2.2.2)
set_option maxRecDepth 100000 in
set_option maxHeartbeats 4000000 in
theorem j_X6_readHead_b91 {p : Program} {l : Launch} {e : Env} {s : State} {m : MethodId} {args : Array Value} {below : List Frame} {meth : Method} {c : Code} {A : Nat → Prop} {D : va_G} {cy : Nat → ClassId} {ad : (Nat → Nat) × (Nat → Nat)} (X : gK p s m args meth c A D cy ad cX6_readHead 5 RX6) (hr : meth.sig.returnType = none) {h0 h1 : Nat} (v0 : TXv) (x3 : Int32) (y0 : Int32) (y1 : Int32) {q : TXv} (hf : f_X6_readHead_b91 v0 x3 y0 y1 = some q) : GW p l e rmX6_readHead s m args below meth c A D 5 0 0 (MQ below (cmQ D cy A none ([TX cy h0 h1 q] : List va_W).flatten) args s 0 0 A) 91 [(3, .int x3)] [.int y0, .int y1, .ref h0] [TX cy h0 h1 v0] := by
  unfold f_X6_readHead_b91 at hf
  refine g_imul X dX6_readHead_91 ?_
  refine g_iload_n X dX6_readHead_92 0 rfl rfl ?_
  refine g_iadd X dX6_readHead_93 ?_
  refine g_put (gs' := [TX cy h0 h1 (v0.1, v0.2.1, v0.2.2.1, v0.2.2.2.1, ((y1 * y0) + x3), v0.2.2.2.2.2.1, v0.2.2.2.2.2.2.1, v0.2.2.2.2.2.2.2.1, v0.2.2.2.2.2.2.2.2)]) X dX6_readHead_94 ck_X6 ct_X6 0 0 5 rfl rfl (Nat.le_of_ble_eq_true rfl) lkf_X6_44 rfl rfl rfl (Nat.le_of_ble_eq_true rfl) rfl ?_
  have hf := Option.some.inj hf
  subst hf
  exact g_vret X hr dX6_readHead_97
def f_X6_readHead_b68 (v0 : TXv) (x1 : Int32) (x2 : Int32) (x3 : Int32) (y0 : Bool) : Option (TXv) :=
  if (b2i y0) = 0 then f_X6_readHead_b91 v0 x3 (((2 : Int32) * x1) + x2) (3 : Int32) else f_X6_readHead_b91 v0 x3 ((2 : Int32) * v0.2.2.2.1) (3 : Int32)
set_option maxRecDepth 100000 in
set_option maxHeartbeats 4000000 in
theorem j_X6_readHead_b68 {p : Program} {l : Launch} {e : Env} {s : State} {m : MethodId} {args : Array Value} {below : List Frame} {meth : Method} {c : Code} {A : Nat → Prop} {D : va_G} {cy : Nat → ClassId} {ad : (Nat → Nat) × (Nat → Nat)} (X : gK p s m args meth c A D cy ad cX6_readHead 5 RX6) (hr : meth.sig.returnType = none) {h0 h1 : Nat} (v0 : TXv) (x1 : Int32) (x2 : Int32) (x3 : Int32) (y0 : Bool) {q : TXv} (hf : f_X6_readHead_b68 v0 x1 x2 x3 y0 = some q) : GW p l e rmX6_readHead s m args below meth c A D 5 0 0 (MQ below (cmQ D cy A none ([TX cy h0 h1 q] : List va_W).flatten) args s 0 0 A) 68 [(0, .ref h0), (1, .int x1), (2, .int x2), (3, .int x3)] [.int (b2i y0)] [TX cy h0 h1 v0] := by
  unfold f_X6_readHead_b68 at hf
  refine g_istore (lv' := [(0, .ref h0), (1, .int x1), (2, .int x2), (3, .int x3), (4, .int (b2i y0))]) X dX6_readHead_68 [1, 2, 3, 4, 0] (Nat.le_of_ble_eq_true rfl) rfl ?_
  refine g_aload_n X dX6_readHead_70 0 rfl rfl ?_
  refine g_iconst X (3 : Int32) dX6_readHead_71 (by decide) ?_
  refine g_iload X dX6_readHead_72 4 rfl ?_
  refine g_if_eq X 86 dX6_readHead_74 (by decide) (fun c330 => ?_) (fun c330 => ?_)
  · have hf := opos c330 hf
    refine g_iconst X (2 : Int32) dX6_readHead_86 (by decide) ?_
    refine g_iload_n X dX6_readHead_87 1 rfl rfl ?_
    refine g_imul X dX6_readHead_88 ?_
    refine g_iload_n X dX6_readHead_89 2 rfl rfl ?_
    refine g_iadd X dX6_readHead_90 ?_
    refine g_sub [3] (lv' := [(3, .int x3)]) rfl ?_
    exact j_X6_readHead_b91 X hr v0 x3 (((2 : Int32) * x1) + x2) (3 : Int32) hf
  · have hf := oneg c330 hf
    refine g_iconst X (2 : Int32) dX6_readHead_77 (by decide) ?_
    refine g_aload_n X dX6_readHead_78 0 rfl rfl ?_
    refine g_get X dX6_readHead_79 ck_X6 0 0 4 rfl rfl (Nat.le_of_ble_eq_true rfl) lkf_X6_36 rfl ?_
    refine g_imul X dX6_readHead_82 ?_
    refine g_goto X 91 dX6_readHead_83 (by decide) ?_
    refine g_sub [3] (lv' := [(3, .int x3)]) rfl ?_
    exact j_X6_readHead_b91 X hr v0 x3 ((2 : Int32) * v0.2.2.2.1) (3 : Int32) hf
def f_X6_readHead_b63 (v0 : TXv) (x1 : Int32) (x2 : Int32) (x3 : Int32) : Option (TXv) :=
  f_X6_readHead_b68 v0 x1 x2 x3 true
set_option maxRecDepth 100000 in
set_option maxHeartbeats 4000000 in
theorem j_X6_readHead_b63 {p : Program} {l : Launch} {e : Env} {s : State} {m : MethodId} {args : Array Value} {below : List Frame} {meth : Method} {c : Code} {A : Nat → Prop} {D : va_G} {cy : Nat → ClassId} {ad : (Nat → Nat) × (Nat → Nat)} (X : gK p s m args meth c A D cy ad cX6_readHead 5 RX6) (hr : meth.sig.returnType = none) {h0 h1 : Nat} (v0 : TXv) (x1 : Int32) (x2 : Int32) (x3 : Int32) {q : TXv} (hf : f_X6_readHead_b63 v0 x1 x2 x3 = some q) : GW p l e rmX6_readHead s m args below meth c A D 5 0 0 (MQ below (cmQ D cy A none ([TX cy h0 h1 q] : List va_W).flatten) args s 0 0 A) 63 [(0, .ref h0), (1, .int x1), (2, .int x2), (3, .int x3)] [] [TX cy h0 h1 v0] := by
  unfold f_X6_readHead_b63 at hf
  refine g_iconst X (1 : Int32) dX6_readHead_63 (by decide) ?_
  refine g_goto X 68 dX6_readHead_64 (by decide) ?_
  exact j_X6_readHead_b68 X hr v0 x1 x2 x3 true hf
def f_X6_readHead (v0 : TXv) : Option (TXv) :=
  (f_X6_readOneOf 0 (v0.1, (0 : Int32), (0 : Int32), v0.2.2.2.1, v0.2.2.2.2.1, v0.2.2.2.2.2.1, v0.2.2.2.2.2.2.1, v0.2.2.2.2.2.2.2.1, v0.2.2.2.2.2.2.2.2)).bind (fun q325 => (f_X6_readNumber q325.2 (3 : Int32) (12 : Int32)).bind (fun q326 => (f_X6_readNumber (q326.2.1, q326.2.2.1, q326.2.2.2.1, q326.1, q326.2.2.2.2.2.1, q326.2.2.2.2.2.2.1, q326.2.2.2.2.2.2.2.1, q326.2.2.2.2.2.2.2.2.1, q326.2.2.2.2.2.2.2.2.2) (0 : Int32) (11 : Int32)).bind (fun q327 => (f_X6_readOneOf 1 q327.2).bind (fun q328 => (f_X6_readDigit q328.2 (0 : Int32) (2 : Int32)).bind (fun q329 => if q328.1 = (2 : Int32) then f_X6_readHead_b63 q329.2 q327.1 q328.1 q329.1 else if q327.1 < q329.2.2.2.2.1 then f_X6_readHead_b68 q329.2 q327.1 q328.1 q329.1 false else f_X6_readHead_b63 q329.2 q327.1 q328.1 q329.1)))))
set_option maxRecDepth 100000 in
set_option maxHeartbeats 4000000 in
theorem c_X6_readHead (l : Launch) (D : va_G) (cy : Nat → ClassId) (ad : (Nat → Nat) × (Nat → Nat)) (h0 : Nat) (h1 : Nat) (v0 : TXv) {q : TXv} (hf : f_X6_readHead v0 = some q) : CM l yX6_readHead cX6_readHead 5 none rmX6_readHead D cy ad [.ref h0] [TX cy h0 h1 v0] none [TX cy h0 h1 q] := by
  refine cm_of (lv0 := [(0, .ref h0)]) (by decide) (Nat.le_of_ble_eq_true rfl) rfl ?_
  intro p e s m args below meth c A X hr hn
  have X : gK p s m args meth c A D cy ad cX6_readHead 5 RX6 := X
  unfold f_X6_readHead at hf
  refine g_aload_n X dX6_readHead_0 0 rfl rfl ?_
  refine g_iconst X (0 : Int32) dX6_readHead_1 (by decide) ?_
  refine g_put (gs' := [TX cy h0 h1 (v0.1, (0 : Int32), v0.2.2.1, v0.2.2.2.1, v0.2.2.2.2.1, v0.2.2.2.2.2.1, v0.2.2.2.2.2.2.1, v0.2.2.2.2.2.2.2.1, v0.2.2.2.2.2.2.2.2)]) X dX6_readHead_2 ck_X6 ct_X6 0 0 2 rfl rfl (Nat.le_of_ble_eq_true rfl) lkf_X6_23 rfl rfl rfl (Nat.le_of_ble_eq_true rfl) rfl ?_
  refine g_aload_n X dX6_readHead_5 0 rfl rfl ?_
  refine g_iconst X (0 : Int32) dX6_readHead_6 (by decide) ?_
  refine g_put (gs' := [TX cy h0 h1 (v0.1, (0 : Int32), (0 : Int32), v0.2.2.2.1, v0.2.2.2.2.1, v0.2.2.2.2.2.1, v0.2.2.2.2.2.2.1, v0.2.2.2.2.2.2.2.1, v0.2.2.2.2.2.2.2.2)]) X dX6_readHead_7 ck_X6 ct_X6 0 0 3 rfl rfl (Nat.le_of_ble_eq_true rfl) lkf_X6_19 rfl rfl rfl (Nat.le_of_ble_eq_true rfl) rfl ?_
  refine g_aload_n X dX6_readHead_10 0 rfl rfl ?_
  refine g_ldcS X 0 (by decide) rfl rfl dX6_readHead_11 ?_
  obtain ⟨q325, hq325, hf⟩ := obind hf
  refine g_callV (gs' := [TX cy h0 h1 q325.2]) (rest := []) X dX6_readHead_13 (c_X6_readOneOf l D cy ad h0 h1 0 (v0.1, (0 : Int32), (0 : Int32), v0.2.2.2.1, v0.2.2.2.2.1, v0.2.2.2.2.2.1, v0.2.2.2.2.2.2.1, v0.2.2.2.2.2.2.2.1, v0.2.2.2.2.2.2.2.2) (by decide) hq325) mf_X6_readOneOf mv_X6_readOneOf lkm_X6_28 ⟨(Nat.le_of_ble_eq_true rfl), (Nat.le_of_ble_eq_true rfl), (Nat.le_of_ble_eq_true rfl), (Nat.le_of_ble_eq_true rfl)⟩ 0 0 rfl rfl rfl rfl [0] _ (by decide : [0].Perm (List.range 1)) rfl (by decide : [0].Perm (List.range 1)) rfl (Nat.le_of_ble_eq_true rfl) rfl ?_
  refine g_pop X dX6_readHead_16 rfl ?_
  refine g_aload_n X dX6_readHead_17 0 rfl rfl ?_
  refine g_aload_n X dX6_readHead_18 0 rfl rfl ?_
  refine g_iconst X (3 : Int32) dX6_readHead_19 (by decide) ?_
  refine g_bipush X (12 : Int32) dX6_readHead_20 (by decide) ?_
  obtain ⟨q326, hq326, hf⟩ := obind hf
  refine g_callV (gs' := [TX cy h0 h1 q326.2]) (rest := [.ref h0]) X dX6_readHead_22 (c_X6_readNumber l D cy ad h0 h1 q325.2 (3 : Int32) (12 : Int32) hq326) mf_X6_readNumber mv_X6_readNumber lkm_X6_32 ⟨(Nat.le_of_ble_eq_true rfl), (Nat.le_of_ble_eq_true rfl), (Nat.le_of_ble_eq_true rfl), (Nat.le_of_ble_eq_true rfl)⟩ 0 0 rfl rfl rfl rfl [0] _ (by decide : [0].Perm (List.range 1)) rfl (by decide : [0].Perm (List.range 1)) rfl (Nat.le_of_ble_eq_true rfl) rfl ?_
  refine g_put (gs' := [TX cy h0 h1 (q326.2.1, q326.2.2.1, q326.2.2.2.1, q326.1, q326.2.2.2.2.2.1, q326.2.2.2.2.2.2.1, q326.2.2.2.2.2.2.2.1, q326.2.2.2.2.2.2.2.2.1, q326.2.2.2.2.2.2.2.2.2)]) X dX6_readHead_25 ck_X6 ct_X6 0 0 4 rfl rfl (Nat.le_of_ble_eq_true rfl) lkf_X6_36 rfl rfl rfl (Nat.le_of_ble_eq_true rfl) rfl ?_
  refine g_aload_n X dX6_readHead_28 0 rfl rfl ?_
  refine g_iconst X (0 : Int32) dX6_readHead_29 (by decide) ?_
  refine g_bipush X (11 : Int32) dX6_readHead_30 (by decide) ?_
  obtain ⟨q327, hq327, hf⟩ := obind hf
  refine g_callV (gs' := [TX cy h0 h1 q327.2]) (rest := []) X dX6_readHead_32 (c_X6_readNumber l D cy ad h0 h1 (q326.2.1, q326.2.2.1, q326.2.2.2.1, q326.1, q326.2.2.2.2.2.1, q326.2.2.2.2.2.2.1, q326.2.2.2.2.2.2.2.1, q326.2.2.2.2.2.2.2.2.1, q326.2.2.2.2.2.2.2.2.2) (0 : Int32) (11 : Int32) hq327) mf_X6_readNumber mv_X6_readNumber lkm_X6_32 ⟨(Nat.le_of_ble_eq_true rfl), (Nat.le_of_ble_eq_true rfl), (Nat.le_of_ble_eq_true rfl), (Nat.le_of_ble_eq_true rfl)⟩ 0 0 rfl rfl rfl rfl [0] _ (by decide : [0].Perm (List.range 1)) rfl (by decide : [0].Perm (List.range 1)) rfl (Nat.le_of_ble_eq_true rfl) rfl ?_
  refine g_istore_n (lv' := [(0, .ref h0), (1, .int q327.1)]) X dX6_readHead_35 [1, 0] rfl (Nat.le_of_ble_eq_true rfl) rfl ?_
  refine g_aload_n X dX6_readHead_36 0 rfl rfl ?_
  refine g_ldcS X 1 (by decide) rfl rfl dX6_readHead_37 ?_
  obtain ⟨q328, hq328, hf⟩ := obind hf
  refine g_callV (gs' := [TX cy h0 h1 q328.2]) (rest := []) X dX6_readHead_39 (c_X6_readOneOf l D cy ad h0 h1 1 q327.2 (by decide) hq328) mf_X6_readOneOf mv_X6_readOneOf lkm_X6_28 ⟨(Nat.le_of_ble_eq_true rfl), (Nat.le_of_ble_eq_true rfl), (Nat.le_of_ble_eq_true rfl), (Nat.le_of_ble_eq_true rfl)⟩ 0 0 rfl rfl rfl rfl [0] _ (by decide : [0].Perm (List.range 1)) rfl (by decide : [0].Perm (List.range 1)) rfl (Nat.le_of_ble_eq_true rfl) rfl ?_
  refine g_istore_n (lv' := [(0, .ref h0), (1, .int q327.1), (2, .int q328.1)]) X dX6_readHead_42 [1, 2, 0] rfl (Nat.le_of_ble_eq_true rfl) rfl ?_
  refine g_aload_n X dX6_readHead_43 0 rfl rfl ?_
  refine g_iconst X (0 : Int32) dX6_readHead_44 (by decide) ?_
  refine g_iconst X (2 : Int32) dX6_readHead_45 (by decide) ?_
  obtain ⟨q329, hq329, hf⟩ := obind hf
  refine g_callV (gs' := [TX cy h0 h1 q329.2]) (rest := []) X dX6_readHead_46 (c_X6_readDigit l D cy ad h0 h1 q328.2 (0 : Int32) (2 : Int32) hq329) mf_X6_readDigit mv_X6_readDigit lkm_X6_41 ⟨(Nat.le_of_ble_eq_true rfl), (Nat.le_of_ble_eq_true rfl), (Nat.le_of_ble_eq_true rfl), (Nat.le_of_ble_eq_true rfl)⟩ 0 0 rfl rfl rfl rfl [0] _ (by decide : [0].Perm (List.range 1)) rfl (by decide : [0].Perm (List.range 1)) rfl (Nat.le_of_ble_eq_true rfl) rfl ?_
  refine g_istore_n (lv' := [(0, .ref h0), (1, .int q327.1), (2, .int q328.1), (3, .int q329.1)]) X dX6_readHead_49 [1, 2, 3, 0] rfl (Nat.le_of_ble_eq_true rfl) rfl ?_
  refine g_iload_n X dX6_readHead_50 2 rfl rfl ?_
  refine g_iconst X (2 : Int32) dX6_readHead_51 (by decide) ?_
  refine g_icmp_eq X 63 dX6_readHead_52 (by decide) (fun c332 => ?_) (fun c332 => ?_)
  · have hf := opos c332 hf
    exact j_X6_readHead_b63 X hr q329.2 q327.1 q328.1 q329.1 hf
  · have hf := oneg c332 hf
    refine g_iload_n X dX6_readHead_55 1 rfl rfl ?_
    refine g_aload_n X dX6_readHead_56 0 rfl rfl ?_
    refine g_get X dX6_readHead_57 ck_X6 0 0 4 rfl rfl (Nat.le_of_ble_eq_true rfl) lkf_X6_36 rfl ?_
    refine g_icmp_lt X 67 dX6_readHead_60 (by decide) (fun c331 => ?_) (fun c331 => ?_)
    · have hf := opos c331 hf
      refine g_iconst X (0 : Int32) dX6_readHead_67 (by decide) ?_
      exact j_X6_readHead_b68 X hr q329.2 q327.1 q328.1 q329.1 false hf
    · have hf := oneg c331 hf
      exact j_X6_readHead_b63 X hr q329.2 q327.1 q328.1 q329.1 hf
abbrev rmX6_readCoins : Room := ({ frames := 2, cells := 0, slots := 0, locals := 40 } : Room)
def f_X6_readCoins_B4_b37 (v0 : TXv) (x1 : Int32) (x2 : Int32) : Option ((Int32 × Int32 × TXv) ⊕ ((Int32 × TXv))) :=
  some (.inl (x1, (x2 + (1 : Int32)), v0))
set_option maxRecDepth 100000 in
set_option maxHeartbeats 4000000 in
theorem j_X6_readCoins_B4_b37 {p : Program} {l : Launch} {e : Env} {s : State} {m : MethodId} {args : Array Value} {below : List Frame} {meth : Method} {c : Code} {A : Nat → Prop} {D : va_G} {cy : Nat → ClassId} {ad : (Nat → Nat) × (Nat → Nat)} {Q : State → Prop} (X : gK p s m args meth c A D cy ad cX6_readCoins 3 RX6) (hr : meth.sig.returnType = (some .int)) {h0 h1 : Nat} (v0 : TXv) (x1 : Int32) (x2 : Int32) {q : (Int32 × Int32 × TXv) ⊕ ((Int32 × TXv))} (hf : f_X6_readCoins_B4_b37 v0 x1 x2 = some q) (K1 : ∀ s' : Int32 × Int32 × TXv, q = .inl s' → GW p l e rmX6_readCoins s m args below meth c A D 3 0 0 Q 4 [(0, .ref h0), (1, .int s'.1), (2, .int s'.2.1)] [] [TX cy h0 h1 (s'.2.2.1, s'.2.2.2.1, s'.2.2.2.2.1, s'.2.2.2.2.2.1, s'.2.2.2.2.2.2.1, s'.2.2.2.2.2.2.2.1, s'.2.2.2.2.2.2.2.2.1, s'.2.2.2.2.2.2.2.2.2.1, s'.2.2.2.2.2.2.2.2.2.2)]) (K2 : ∀ e' : Int32 × TXv, q = .inr (e') → GW p l e rmX6_readCoins s m args below meth c A D 3 0 0 Q 43 [(1, .int e'.1)] [] [TX cy h0 h1 (e'.2.1, e'.2.2.1, e'.2.2.2.1, e'.2.2.2.2.1, e'.2.2.2.2.2.1, e'.2.2.2.2.2.2.1, e'.2.2.2.2.2.2.2.1, e'.2.2.2.2.2.2.2.2.1, e'.2.2.2.2.2.2.2.2.2)]) : GW p l e rmX6_readCoins s m args below meth c A D 3 0 0 Q 37 [(0, .ref h0), (1, .int x1), (2, .int x2)] [] [TX cy h0 h1 v0] := by
  unfold f_X6_readCoins_B4_b37 at hf
  refine g_iinc (lv' := [(0, .ref h0), (1, .int x1), (2, .int (x2 + (1 : Int32)))]) (v := (1 : Int32)) X dX6_readCoins_37 2 rfl (by decide) [1, 2, 0] (Nat.le_of_ble_eq_true rfl) rfl ?_
  refine g_goto X 4 dX6_readCoins_40 (by decide) ?_
  exact K1 (x1, (x2 + (1 : Int32)), v0) (Option.some.inj hf).symm
def f_X6_readCoins_B4 (z : Int32 × Int32 × TXv) : Option ((Int32 × Int32 × TXv) ⊕ ((Int32 × TXv))) :=
  if (12 : Int32) ≤ z.2.1 then some (.inr ((z.1, z.2.2))) else (f_X6_nextSign z.2.2).bind (fun q335 => if q335 = ((97 : Int32) + z.2.1) then f_X6_readCoins_B4_b37 (z.2.2.1, (z.2.2.2.1 + (1 : Int32)), z.2.2.2.2.1, z.2.2.2.2.2.1, z.2.2.2.2.2.2.1, z.2.2.2.2.2.2.2.1, z.2.2.2.2.2.2.2.2.1, z.2.2.2.2.2.2.2.2.2.1, z.2.2.2.2.2.2.2.2.2.2) (z.1 ||| ((1 : Int32) <<< (z.2.1 &&& 31))) z.2.1 else f_X6_readCoins_B4_b37 z.2.2 z.1 z.2.1)
set_option maxRecDepth 100000 in
set_option maxHeartbeats 4000000 in
theorem b_X6_readCoins_B4 {p : Program} {l : Launch} {e : Env} {s : State} {m : MethodId} {args : Array Value} {below : List Frame} {meth : Method} {c : Code} {A : Nat → Prop} {D : va_G} {cy : Nat → ClassId} {ad : (Nat → Nat) × (Nat → Nat)} {Q : State → Prop} (X : gK p s m args meth c A D cy ad cX6_readCoins 3 RX6) (hr : meth.sig.returnType = (some .int)) {h0 h1 : Nat} (z : Int32 × Int32 × TXv) {q : (Int32 × Int32 × TXv) ⊕ ((Int32 × TXv))} (hf : f_X6_readCoins_B4 z = some q) (K1 : ∀ s' : Int32 × Int32 × TXv, q = .inl s' → GW p l e rmX6_readCoins s m args below meth c A D 3 0 0 Q 4 [(0, .ref h0), (1, .int s'.1), (2, .int s'.2.1)] [] [TX cy h0 h1 (s'.2.2.1, s'.2.2.2.1, s'.2.2.2.2.1, s'.2.2.2.2.2.1, s'.2.2.2.2.2.2.1, s'.2.2.2.2.2.2.2.1, s'.2.2.2.2.2.2.2.2.1, s'.2.2.2.2.2.2.2.2.2.1, s'.2.2.2.2.2.2.2.2.2.2)]) (K2 : ∀ e' : Int32 × TXv, q = .inr (e') → GW p l e rmX6_readCoins s m args below meth c A D 3 0 0 Q 43 [(1, .int e'.1)] [] [TX cy h0 h1 (e'.2.1, e'.2.2.1, e'.2.2.2.1, e'.2.2.2.2.1, e'.2.2.2.2.2.1, e'.2.2.2.2.2.2.1, e'.2.2.2.2.2.2.2.1, e'.2.2.2.2.2.2.2.2.1, e'.2.2.2.2.2.2.2.2.2)]) : GW p l e rmX6_readCoins s m args below meth c A D 3 0 0 Q 4 [(0, .ref h0), (1, .int z.1), (2, .int z.2.1)] [] [TX cy h0 h1 z.2.2] := by
  unfold f_X6_readCoins_B4 at hf
  refine g_iload_n X dX6_readCoins_4 2 rfl rfl ?_
  refine g_bipush X (12 : Int32) dX6_readCoins_5 (by decide) ?_
  refine g_icmp_ge X 43 dX6_readCoins_7 (by decide) (fun c337 => ?_) (fun c337 => ?_)
  · have hf := opos c337 hf
    refine g_sub [1] (lv' := [(1, .int z.1)]) rfl ?_
    exact K2 (z.1, z.2.2) (Option.some.inj hf).symm
  · have hf := oneg c337 hf
    refine g_aload_n X dX6_readCoins_10 0 rfl rfl ?_
    obtain ⟨q335, hq335, hf⟩ := obind hf
    refine g_callV (gs' := [TX cy h0 h1 z.2.2]) (rest := []) X dX6_readCoins_11 (c_X6_nextSign l D cy ad h0 h1 z.2.2 hq335) mf_X6_nextSign mv_X6_nextSign lkm_X6_70 ⟨(Nat.le_of_ble_eq_true rfl), (Nat.le_of_ble_eq_true rfl), (Nat.le_of_ble_eq_true rfl), (Nat.le_of_ble_eq_true rfl)⟩ 0 0 rfl rfl rfl rfl [0] _ (by decide : [0].Perm (List.range 1)) rfl (by decide : [0].Perm (List.range 1)) rfl (Nat.le_of_ble_eq_true rfl) rfl ?_
    refine g_bipush X (97 : Int32) dX6_readCoins_14 (by decide) ?_
    refine g_iload_n X dX6_readCoins_16 2 rfl rfl ?_
    refine g_iadd X dX6_readCoins_17 ?_
    refine g_icmp_ne X 37 dX6_readCoins_18 (by decide) (fun c336 => ?_) (fun c336 => ?_)
    · have hf := oneg c336 hf
      exact j_X6_readCoins_B4_b37 X hr z.2.2 z.1 z.2.1 hf K1 K2
    · have hf := opos c336 hf
      refine g_iload_n X dX6_readCoins_21 1 rfl rfl ?_
      refine g_iconst X (1 : Int32) dX6_readCoins_22 (by decide) ?_
      refine g_iload_n X dX6_readCoins_23 2 rfl rfl ?_
      refine g_ishl X dX6_readCoins_24 ?_
      refine g_ior X dX6_readCoins_25 ?_
      refine g_istore_n (lv' := [(0, .ref h0), (1, .int (z.1 ||| ((1 : Int32) <<< (z.2.1 &&& 31)))), (2, .int z.2.1)]) X dX6_readCoins_26 [1, 0, 2] rfl (Nat.le_of_ble_eq_true rfl) rfl ?_
      refine g_aload_n X dX6_readCoins_27 0 rfl rfl ?_
      refine g_dup X dX6_readCoins_28 rfl ?_
      refine g_get X dX6_readCoins_29 ck_X6 0 0 2 rfl rfl (Nat.le_of_ble_eq_true rfl) lkf_X6_23 rfl ?_
      refine g_iconst X (1 : Int32) dX6_readCoins_32 (by decide) ?_
      refine g_iadd X dX6_readCoins_33 ?_
      refine g_put (gs' := [TX cy h0 h1 (z.2.2.1, (z.2.2.2.1 + (1 : Int32)), z.2.2.2.2.1, z.2.2.2.2.2.1, z.2.2.2.2.2.2.1, z.2.2.2.2.2.2.2.1, z.2.2.2.2.2.2.2.2.1, z.2.2.2.2.2.2.2.2.2.1, z.2.2.2.2.2.2.2.2.2.2)]) X dX6_readCoins_34 ck_X6 ct_X6 0 0 2 rfl rfl (Nat.le_of_ble_eq_true rfl) lkf_X6_23 rfl rfl rfl (Nat.le_of_ble_eq_true rfl) rfl ?_
      exact j_X6_readCoins_B4_b37 X hr (z.2.2.1, (z.2.2.2.1 + (1 : Int32)), z.2.2.2.2.1, z.2.2.2.2.2.1, z.2.2.2.2.2.2.1, z.2.2.2.2.2.2.2.1, z.2.2.2.2.2.2.2.2.1, z.2.2.2.2.2.2.2.2.2.1, z.2.2.2.2.2.2.2.2.2.2) (z.1 ||| ((1 : Int32) <<< (z.2.1 &&& 31))) z.2.1 hf K1 K2
set_option maxRecDepth 100000 in
set_option maxHeartbeats 4000000 in
theorem w_X6_readCoins_B4 {p : Program} {l : Launch} {e : Env} {s : State} {m : MethodId} {args : Array Value} {below : List Frame} {meth : Method} {c : Code} {A : Nat → Prop} {D : va_G} {cy : Nat → ClassId} {ad : (Nat → Nat) × (Nat → Nat)} {Q : State → Prop} (X : gK p s m args meth c A D cy ad cX6_readCoins 3 RX6) (hr : meth.sig.returnType = (some .int)) {h0 h1 : Nat} {n : Nat} {z : Int32 × Int32 × TXv} {q : (Int32 × TXv)} (hf : itl (f_X6_readCoins_B4) n z = some q) (K2 : GW p l e rmX6_readCoins s m args below meth c A D 3 0 0 Q 43 [(1, .int q.1)] [] [TX cy h0 h1 q.2]) : GW p l e rmX6_readCoins s m args below meth c A D 3 0 0 Q 4 [(0, .ref h0), (1, .int z.1), (2, .int z.2.1)] [] [TX cy h0 h1 z.2.2] :=
  itl_ind (f := f_X6_readCoins_B4) (I := fun z => GW p l e rmX6_readCoins s m args below meth c A D 3 0 0 Q 4 [(0, .ref h0), (1, .int z.1), (2, .int z.2.1)] [] [TX cy h0 h1 z.2.2]) (J := (fun q => GW p l e rmX6_readCoins s m args below meth c A D 3 0 0 Q 43 [(1, .int q.1)] [] [TX cy h0 h1 q.2])) (fun z x h k1 k2 => b_X6_readCoins_B4 X hr z h (fun s' hs => k1 s' hs) (fun e' he => k2 e' he)) n z q hf K2
def f_X6_readCoins (v0 : TXv) : Option (Int32 × TXv) :=
  (itl (f_X6_readCoins_B4) FU ((0 : Int32), (0 : Int32), v0)).bind (fun q338 => some (q338.1, q338.2))
set_option maxRecDepth 100000 in
set_option maxHeartbeats 4000000 in
theorem c_X6_readCoins (l : Launch) (D : va_G) (cy : Nat → ClassId) (ad : (Nat → Nat) × (Nat → Nat)) (h0 : Nat) (h1 : Nat) (v0 : TXv) {q : Int32 × TXv} (hf : f_X6_readCoins v0 = some q) : CM l yX6_readCoins cX6_readCoins 3 (some .int) rmX6_readCoins D cy ad [.ref h0] [TX cy h0 h1 v0] (some (.int q.1)) [TX cy h0 h1 q.2] := by
  refine cm_of (lv0 := [(0, .ref h0)]) (by decide) (Nat.le_of_ble_eq_true rfl) rfl ?_
  intro p e s m args below meth c A X hr hn
  have X : gK p s m args meth c A D cy ad cX6_readCoins 3 RX6 := X
  unfold f_X6_readCoins at hf
  refine g_iconst X (0 : Int32) dX6_readCoins_0 (by decide) ?_
  refine g_istore_n (lv' := [(0, .ref h0), (1, .int (0 : Int32))]) X dX6_readCoins_1 [1, 0] rfl (Nat.le_of_ble_eq_true rfl) rfl ?_
  refine g_iconst X (0 : Int32) dX6_readCoins_2 (by decide) ?_
  refine g_istore_n (lv' := [(0, .ref h0), (1, .int (0 : Int32)), (2, .int (0 : Int32))]) X dX6_readCoins_3 [1, 2, 0] rfl (Nat.le_of_ble_eq_true rfl) rfl ?_
  obtain ⟨q338, hq338, hf⟩ := obind hf
  refine w_X6_readCoins_B4 X hr hq338 ?_
  refine g_iload_n X dX6_readCoins_43 0 rfl rfl ?_
  have hf := Option.some.inj hf
  subst hf
  exact g_iret X hr dX6_readCoins_44
abbrev rmX6_readCommand : Room := ({ frames := 5, cells := 0, slots := 0, locals := 114 } : Room)
def f_X6_readCommand (v0 : TXv) : Option (TXv) :=
  (f_X6_readOneOf 2 v0).bind (fun q353 => if q353.1 = 0 then (f_X6_readCoins (q353.2.1, q353.2.2.1, q353.2.2.2.1, q353.2.2.2.2.1, q353.2.2.2.2.2.1, q353.1, q353.2.2.2.2.2.2.2.1, q353.2.2.2.2.2.2.2.2.1, q353.2.2.2.2.2.2.2.2.2)).bind (fun q356 => (f_X6_readOneOf 3 (q356.2.1, q356.2.2.1, q356.2.2.2.1, q356.2.2.2.2.1, q356.2.2.2.2.2.1, q356.2.2.2.2.2.2.1, q356.1, q356.2.2.2.2.2.2.2.2.1, q356.2.2.2.2.2.2.2.2.2)).bind (fun q357 => (f_X6_readCoins q357.2).bind (fun q358 => (f_X6_readOneOf 4 (q358.2.1, q358.2.2.1, q358.2.2.2.1, q358.2.2.2.2.1, q358.2.2.2.2.2.1, q358.2.2.2.2.2.2.1, q358.2.2.2.2.2.2.2.1, q358.1, q358.2.2.2.2.2.2.2.2.2)).bind (fun q359 => some q359.2)))) else (f_X6_readNumber (q353.2.1, q353.2.2.1, q353.2.2.2.1, q353.2.2.2.2.1, q353.2.2.2.2.2.1, q353.1, q353.2.2.2.2.2.2.2.1, q353.2.2.2.2.2.2.2.2.1, q353.2.2.2.2.2.2.2.2.2) (1 : Int32) (20 : Int32)).bind (fun q354 => (f_X6_readNumber (q354.2.1, q354.2.2.1, q354.2.2.2.1, q354.2.2.2.2.1, q354.2.2.2.2.2.1, q354.2.2.2.2.2.2.1, q354.1, q354.2.2.2.2.2.2.2.2.1, q354.2.2.2.2.2.2.2.2.2) (1 : Int32) (20 : Int32)).bind (fun q355 => some (q355.2.1, q355.2.2.1, q355.2.2.2.1, q355.2.2.2.2.1, q355.2.2.2.2.2.1, q355.2.2.2.2.2.2.1, q355.2.2.2.2.2.2.2.1, q355.1, q355.2.2.2.2.2.2.2.2.2))))
set_option maxRecDepth 100000 in
set_option maxHeartbeats 4000000 in
theorem c_X6_readCommand (l : Launch) (D : va_G) (cy : Nat → ClassId) (ad : (Nat → Nat) × (Nat → Nat)) (h0 : Nat) (h1 : Nat) (v0 : TXv) {q : TXv} (hf : f_X6_readCommand v0 = some q) : CM l yX6_readCommand cX6_readCommand 1 none rmX6_readCommand D cy ad [.ref h0] [TX cy h0 h1 v0] none [TX cy h0 h1 q] := by
  refine cm_of (lv0 := [(0, .ref h0)]) (by decide) (Nat.le_of_ble_eq_true rfl) rfl ?_
  intro p e s m args below meth c A X hr hn
  have X : gK p s m args meth c A D cy ad cX6_readCommand 1 RX6 := X
  unfold f_X6_readCommand at hf
  refine g_aload_n X dX6_readCommand_0 0 rfl rfl ?_
  refine g_aload_n X dX6_readCommand_1 0 rfl rfl ?_
  refine g_ldcS X 2 (by decide) rfl rfl dX6_readCommand_2 ?_
  obtain ⟨q353, hq353, hf⟩ := obind hf
  refine g_callV (gs' := [TX cy h0 h1 q353.2]) (rest := [.ref h0]) X dX6_readCommand_4 (c_X6_readOneOf l D cy ad h0 h1 2 v0 (by decide) hq353) mf_X6_readOneOf mv_X6_readOneOf lkm_X6_28 ⟨(Nat.le_of_ble_eq_true rfl), (Nat.le_of_ble_eq_true rfl), (Nat.le_of_ble_eq_true rfl), (Nat.le_of_ble_eq_true rfl)⟩ 0 0 rfl rfl rfl rfl [0] _ (by decide : [0].Perm (List.range 1)) rfl (by decide : [0].Perm (List.range 1)) rfl (Nat.le_of_ble_eq_true rfl) rfl ?_
  refine g_put (gs' := [TX cy h0 h1 (q353.2.1, q353.2.2.1, q353.2.2.2.1, q353.2.2.2.2.1, q353.2.2.2.2.2.1, q353.1, q353.2.2.2.2.2.2.2.1, q353.2.2.2.2.2.2.2.2.1, q353.2.2.2.2.2.2.2.2.2)]) X dX6_readCommand_7 ck_X6 ct_X6 0 0 6 rfl rfl (Nat.le_of_ble_eq_true rfl) lkf_X6_49 rfl rfl rfl (Nat.le_of_ble_eq_true rfl) rfl ?_
  refine g_aload_n X dX6_readCommand_10 0 rfl rfl ?_
  refine g_get X dX6_readCommand_11 ck_X6 0 0 6 rfl rfl (Nat.le_of_ble_eq_true rfl) lkf_X6_49 rfl ?_
  refine g_if_ne X 50 dX6_readCommand_14 (by decide) (fun c360 => ?_) (fun c360 => ?_)
  · have hf := oneg c360 hf
    refine g_aload_n X dX6_readCommand_50 0 rfl rfl ?_
    refine g_aload_n X dX6_readCommand_51 0 rfl rfl ?_
    refine g_iconst X (1 : Int32) dX6_readCommand_52 (by decide) ?_
    refine g_bipush X (20 : Int32) dX6_readCommand_53 (by decide) ?_
    obtain ⟨q354, hq354, hf⟩ := obind hf
    refine g_callV (gs' := [TX cy h0 h1 q354.2]) (rest := [.ref h0]) X dX6_readCommand_55 (c_X6_readNumber l D cy ad h0 h1 (q353.2.1, q353.2.2.1, q353.2.2.2.1, q353.2.2.2.2.1, q353.2.2.2.2.2.1, q353.1, q353.2.2.2.2.2.2.2.1, q353.2.2.2.2.2.2.2.2.1, q353.2.2.2.2.2.2.2.2.2) (1 : Int32) (20 : Int32) hq354) mf_X6_readNumber mv_X6_readNumber lkm_X6_32 ⟨(Nat.le_of_ble_eq_true rfl), (Nat.le_of_ble_eq_true rfl), (Nat.le_of_ble_eq_true rfl), (Nat.le_of_ble_eq_true rfl)⟩ 0 0 rfl rfl rfl rfl [0] _ (by decide : [0].Perm (List.range 1)) rfl (by decide : [0].Perm (List.range 1)) rfl (Nat.le_of_ble_eq_true rfl) rfl ?_
    refine g_put (gs' := [TX cy h0 h1 (q354.2.1, q354.2.2.1, q354.2.2.2.1, q354.2.2.2.2.1, q354.2.2.2.2.2.1, q354.2.2.2.2.2.2.1, q354.1, q354.2.2.2.2.2.2.2.2.1, q354.2.2.2.2.2.2.2.2.2)]) X dX6_readCommand_58 ck_X6 ct_X6 0 0 7 rfl rfl (Nat.le_of_ble_eq_true rfl) lkf_X6_56 rfl rfl rfl (Nat.le_of_ble_eq_true rfl) rfl ?_
    refine g_aload_n X dX6_readCommand_61 0 rfl rfl ?_
    refine g_aload_n X dX6_readCommand_62 0 rfl rfl ?_
    refine g_iconst X (1 : Int32) dX6_readCommand_63 (by decide) ?_
    refine g_bipush X (20 : Int32) dX6_readCommand_64 (by decide) ?_
    obtain ⟨q355, hq355, hf⟩ := obind hf
    refine g_callV (gs' := [TX cy h0 h1 q355.2]) (rest := [.ref h0]) X dX6_readCommand_66 (c_X6_readNumber l D cy ad h0 h1 (q354.2.1, q354.2.2.1, q354.2.2.2.1, q354.2.2.2.2.1, q354.2.2.2.2.2.1, q354.2.2.2.2.2.2.1, q354.1, q354.2.2.2.2.2.2.2.2.1, q354.2.2.2.2.2.2.2.2.2) (1 : Int32) (20 : Int32) hq355) mf_X6_readNumber mv_X6_readNumber lkm_X6_32 ⟨(Nat.le_of_ble_eq_true rfl), (Nat.le_of_ble_eq_true rfl), (Nat.le_of_ble_eq_true rfl), (Nat.le_of_ble_eq_true rfl)⟩ 0 0 rfl rfl rfl rfl [0] _ (by decide : [0].Perm (List.range 1)) rfl (by decide : [0].Perm (List.range 1)) rfl (Nat.le_of_ble_eq_true rfl) rfl ?_
    refine g_put (gs' := [TX cy h0 h1 (q355.2.1, q355.2.2.1, q355.2.2.2.1, q355.2.2.2.2.1, q355.2.2.2.2.2.1, q355.2.2.2.2.2.2.1, q355.2.2.2.2.2.2.2.1, q355.1, q355.2.2.2.2.2.2.2.2.2)]) X dX6_readCommand_69 ck_X6 ct_X6 0 0 8 rfl rfl (Nat.le_of_ble_eq_true rfl) lkf_X6_61 rfl rfl rfl (Nat.le_of_ble_eq_true rfl) rfl ?_
    have hf := Option.some.inj hf
    subst hf
    exact g_vret X hr dX6_readCommand_72
  · have hf := opos c360 hf
    refine g_aload_n X dX6_readCommand_17 0 rfl rfl ?_
    refine g_aload_n X dX6_readCommand_18 0 rfl rfl ?_
    obtain ⟨q356, hq356, hf⟩ := obind hf
    refine g_callV (gs' := [TX cy h0 h1 q356.2]) (rest := [.ref h0]) X dX6_readCommand_19 (c_X6_readCoins l D cy ad h0 h1 (q353.2.1, q353.2.2.1, q353.2.2.2.1, q353.2.2.2.2.1, q353.2.2.2.2.2.1, q353.1, q353.2.2.2.2.2.2.2.1, q353.2.2.2.2.2.2.2.2.1, q353.2.2.2.2.2.2.2.2.2) hq356) mf_X6_readCoins mv_X6_readCoins lkm_X6_52 ⟨(Nat.le_of_ble_eq_true rfl), (Nat.le_of_ble_eq_true rfl), (Nat.le_of_ble_eq_true rfl), (Nat.le_of_ble_eq_true rfl)⟩ 0 0 rfl rfl rfl rfl [0] _ (by decide : [0].Perm (List.range 1)) rfl (by decide : [0].Perm (List.range 1)) rfl (Nat.le_of_ble_eq_true rfl) rfl ?_
    refine g_put (gs' := [TX cy h0 h1 (q356.2.1, q356.2.2.1, q356.2.2.2.1, q356.2.2.2.2.1, q356.2.2.2.2.2.1, q356.2.2.2.2.2.2.1, q356.1, q356.2.2.2.2.2.2.2.2.1, q356.2.2.2.2.2.2.2.2.2)]) X dX6_readCommand_22 ck_X6 ct_X6 0 0 7 rfl rfl (Nat.le_of_ble_eq_true rfl) lkf_X6_56 rfl rfl rfl (Nat.le_of_ble_eq_true rfl) rfl ?_
    refine g_aload_n X dX6_readCommand_25 0 rfl rfl ?_
    refine g_ldcS X 3 (by decide) rfl rfl dX6_readCommand_26 ?_
    obtain ⟨q357, hq357, hf⟩ := obind hf
    refine g_callV (gs' := [TX cy h0 h1 q357.2]) (rest := []) X dX6_readCommand_28 (c_X6_readOneOf l D cy ad h0 h1 3 (q356.2.1, q356.2.2.1, q356.2.2.2.1, q356.2.2.2.2.1, q356.2.2.2.2.2.1, q356.2.2.2.2.2.2.1, q356.1, q356.2.2.2.2.2.2.2.2.1, q356.2.2.2.2.2.2.2.2.2) (by decide) hq357) mf_X6_readOneOf mv_X6_readOneOf lkm_X6_28 ⟨(Nat.le_of_ble_eq_true rfl), (Nat.le_of_ble_eq_true rfl), (Nat.le_of_ble_eq_true rfl), (Nat.le_of_ble_eq_true rfl)⟩ 0 0 rfl rfl rfl rfl [0] _ (by decide : [0].Perm (List.range 1)) rfl (by decide : [0].Perm (List.range 1)) rfl (Nat.le_of_ble_eq_true rfl) rfl ?_
    refine g_pop X dX6_readCommand_31 rfl ?_
    refine g_aload_n X dX6_readCommand_32 0 rfl rfl ?_
    refine g_aload_n X dX6_readCommand_33 0 rfl rfl ?_
    obtain ⟨q358, hq358, hf⟩ := obind hf
    refine g_callV (gs' := [TX cy h0 h1 q358.2]) (rest := [.ref h0]) X dX6_readCommand_34 (c_X6_readCoins l D cy ad h0 h1 q357.2 hq358) mf_X6_readCoins mv_X6_readCoins lkm_X6_52 ⟨(Nat.le_of_ble_eq_true rfl), (Nat.le_of_ble_eq_true rfl), (Nat.le_of_ble_eq_true rfl), (Nat.le_of_ble_eq_true rfl)⟩ 0 0 rfl rfl rfl rfl [0] _ (by decide : [0].Perm (List.range 1)) rfl (by decide : [0].Perm (List.range 1)) rfl (Nat.le_of_ble_eq_true rfl) rfl ?_
    refine g_put (gs' := [TX cy h0 h1 (q358.2.1, q358.2.2.1, q358.2.2.2.1, q358.2.2.2.2.1, q358.2.2.2.2.2.1, q358.2.2.2.2.2.2.1, q358.2.2.2.2.2.2.2.1, q358.1, q358.2.2.2.2.2.2.2.2.2)]) X dX6_readCommand_37 ck_X6 ct_X6 0 0 8 rfl rfl (Nat.le_of_ble_eq_true rfl) lkf_X6_61 rfl rfl rfl (Nat.le_of_ble_eq_true rfl) rfl ?_
    refine g_aload_n X dX6_readCommand_40 0 rfl rfl ?_
    refine g_ldcS X 4 (by decide) rfl rfl dX6_readCommand_41 ?_
    obtain ⟨q359, hq359, hf⟩ := obind hf
    refine g_callV (gs' := [TX cy h0 h1 q359.2]) (rest := []) X dX6_readCommand_43 (c_X6_readOneOf l D cy ad h0 h1 4 (q358.2.1, q358.2.2.1, q358.2.2.2.1, q358.2.2.2.2.1, q358.2.2.2.2.2.1, q358.2.2.2.2.2.2.1, q358.2.2.2.2.2.2.2.1, q358.1, q358.2.2.2.2.2.2.2.2.2) (by decide) hq359) mf_X6_readOneOf mv_X6_readOneOf lkm_X6_28 ⟨(Nat.le_of_ble_eq_true rfl), (Nat.le_of_ble_eq_true rfl), (Nat.le_of_ble_eq_true rfl), (Nat.le_of_ble_eq_true rfl)⟩ 0 0 rfl rfl rfl rfl [0] _ (by decide : [0].Perm (List.range 1)) rfl (by decide : [0].Perm (List.range 1)) rfl (Nat.le_of_ble_eq_true rfl) rfl ?_
    refine g_pop X dX6_readCommand_46 rfl ?_
    refine g_goto X 72 dX6_readCommand_47 (by decide) ?_
    have hf := Option.some.inj hf
    subst hf
    exact g_vret X hr dX6_readCommand_72
