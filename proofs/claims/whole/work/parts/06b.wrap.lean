abbrev rmL_append : Room := ({ frames := 7, cells := 1, slots := 6, locals := 111 } : Room)
def f_L_append (v0 : TXv) (vo : FnL) (p1 : Int32) : Option (Int32 × TXv × FnL) :=
  (f_X7_append v0 p1).bind (Sum.elim (fun q1659 => some ((0 : Int32), q1659.2, (vp_updL vo (0 : Int32).toNatClampNeg (q1659.1.toInt64)))) (fun q1659 => if q1659.1 = 1 then some ((1 : Int32), q1659.2, vo) else if q1659.1 = 2 then some ((2 : Int32), q1659.2, vo) else none))
set_option maxRecDepth 100000 in
set_option maxHeartbeats 4000000 in
theorem c_L_append (l : Launch) (D : va_G) (cy : Nat → ClassId) (ad : (Nat → Nat) × (Nat → Nat)) (h0 : Nat) (h1 : Nat) (h2 : Nat) (h3 : Nat) (h4 : Nat) (h5 : Nat) (h6 : Nat) (h7 : Nat) (h8 : Nat) (h9 : Nat) (t1 : Nat) (o0 : Nat) (v0 : TXv) (vo : FnL) (p1 : Int32) (hfl : l.stackTraces = false) {q : Int32 × TXv × FnL} (hf : f_L_append v0 vo p1 = some q) : CMW l yL_append cL_append 4 (some .int) [(0, 9, 12, 13), (0, 9, 15, 15)] rmL_append D cy ad [.ref h0, .int p1, .ref o0] [FP h0 h1 h2 h3 h4 h5 h6 h7 h8 h9, TX cy h1 t1 v0, AL cy 1 o0 vo] (some (.int q.1)) [FP h0 h1 h2 h3 h4 h5 h6 h7 h8 h9, TX cy h1 t1 q.2.1, AL cy 1 o0 q.2.2] := by
  refine cmw_of (lv0 := [(0, .ref h0), (1, .int p1), (2, .ref o0)]) (by decide) (Nat.le_of_ble_eq_true rfl) rfl ?_
  intro p e s m args below meth c A X hr htab
  have X : gK p s m args meth c A D cy ad cL_append 4 RL := X
  unfold f_L_append at hf
  refine g_aload_n X dL_append_0 2 rfl rfl ?_
  refine g_iconst X (0 : Int32) dL_append_1 (by decide) ?_
  refine g_aload_n X dL_append_2 0 rfl rfl ?_
  refine g_iload_n X dL_append_3 1 rfl rfl ?_
  obtain ⟨q1659, hq1659, hf⟩ := obind hf
  rcases q1659 with q1659 | q1659
  · have hf := sinl hf
    refine g_xcallR (gs' := [FP h0 h1 h2 h3 h4 h5 h6 h7 h8 h9, TX cy h1 t1 q1659.2, AL cy 1 o0 vo]) (rest := [.int (0 : Int32), .ref o0]) X dL_append_4 (c_X7_append l D cy ad h0 h1 h2 h3 h4 h5 h6 h7 h8 h9 t1 v0 p1 hfl hq1659) mf_X7_append mv_X7_append lkm_L_7 ⟨(Nat.le_of_ble_eq_true rfl), (Nat.le_of_ble_eq_true rfl), (Nat.le_of_ble_eq_true rfl), (Nat.le_of_ble_eq_true rfl)⟩ 0 0 rfl rfl rfl rfl [0, 1, 2] _ (by decide : [0, 1, 2].Perm (List.range 3)) rfl (by decide : [0, 1, 2].Perm (List.range 3)) rfl (Nat.le_of_ble_eq_true rfl) rfl ?_
    refine g_i2l X dL_append_7 ?_
    refine g_lastore (gs' := [FP h0 h1 h2 h3 h4 h5 h6 h7 h8 h9, TX cy h1 t1 q1659.2, AL cy 1 o0 (vp_updL vo (0 : Int32).toNatClampNeg (q1659.1.toInt64))]) X dL_append_8 2 0 rfl rfl (by decide) rfl ?_
    refine g_goto X 18 dL_append_9 (by decide) ?_
    refine g_iconst X (0 : Int32) dL_append_18 (by decide) ?_
    have hf := Option.some.inj hf
    subst hf
    exact g_iret X hr dL_append_19
  · have hf := sinr hf
    by_cases c1660 : q1659.1 = 1
    · have hf := opos c1660 hf
      refine g_xcallT (gs' := [FP h0 h1 h2 h3 h4 h5 h6 h7 h8 h9, TX cy h1 t1 q1659.2, AL cy 1 o0 vo]) (rest := [.int (0 : Int32), .ref o0]) X dL_append_4 (c_X7_append l D cy ad h0 h1 h2 h3 h4 h5 h6 h7 h8 h9 t1 v0 p1 hfl hq1659) mf_X7_append mv_X7_append lkm_L_7 ⟨(Nat.le_of_ble_eq_true rfl), (Nat.le_of_ble_eq_true rfl), (Nat.le_of_ble_eq_true rfl), (Nat.le_of_ble_eq_true rfl)⟩ 0 0 rfl rfl rfl rfl [0, 1, 2] _ (by decide : [0, 1, 2].Perm (List.range 3)) rfl (by decide : [0, 1, 2].Perm (List.range 3)) rfl (Nat.le_of_ble_eq_true rfl) rfl ?_
      rw [c1660]
      refine g_catch (k := 1) X htab [] ⟨0, 9, 12, 13⟩ [⟨0, 9, 15, 15⟩] rfl (fun z hz => absurd hz List.not_mem_nil) (by decide) (by decide) lkcl_13 (by decide) (fun q9 => ?_)
      refine g_astore_n (lv' := [(0, .ref h0), (1, .int p1), (2, .ref o0), (3, .ref q9)]) X dL_append_12 [1, 2, 3, 0] rfl (Nat.le_of_ble_eq_true rfl) rfl ?_
      refine g_iconst X (1 : Int32) dL_append_13 (by decide) ?_
      have hf := Option.some.inj hf
      subst hf
      exact g_iret X hr dL_append_14
    · have hf := oneg c1660 hf
      by_cases c1661 : q1659.1 = 2
      · have hf := opos c1661 hf
        refine g_xcallT (gs' := [FP h0 h1 h2 h3 h4 h5 h6 h7 h8 h9, TX cy h1 t1 q1659.2, AL cy 1 o0 vo]) (rest := [.int (0 : Int32), .ref o0]) X dL_append_4 (c_X7_append l D cy ad h0 h1 h2 h3 h4 h5 h6 h7 h8 h9 t1 v0 p1 hfl hq1659) mf_X7_append mv_X7_append lkm_L_7 ⟨(Nat.le_of_ble_eq_true rfl), (Nat.le_of_ble_eq_true rfl), (Nat.le_of_ble_eq_true rfl), (Nat.le_of_ble_eq_true rfl)⟩ 0 0 rfl rfl rfl rfl [0, 1, 2] _ (by decide : [0, 1, 2].Perm (List.range 3)) rfl (by decide : [0, 1, 2].Perm (List.range 3)) rfl (Nat.le_of_ble_eq_true rfl) rfl ?_
        rw [c1661]
        refine g_catch (k := 2) X htab [⟨0, 9, 12, 13⟩] ⟨0, 9, 15, 15⟩ [] rfl (fun z hz => by cases List.mem_singleton.mp hz; exact ⟨by decide, _, lkcl_13, by decide⟩) (by decide) (by decide) lkcl_15 (by decide) (fun q9 => ?_)
        refine g_astore_n (lv' := [(0, .ref h0), (1, .int p1), (2, .ref o0), (3, .ref q9)]) X dL_append_15 [1, 2, 3, 0] rfl (Nat.le_of_ble_eq_true rfl) rfl ?_
        refine g_iconst X (2 : Int32) dL_append_16 (by decide) ?_
        have hf := Option.some.inj hf
        subst hf
        exact g_iret X hr dL_append_17
      · have hf := oneg c1661 hf
        cases hf
abbrev rmL_load : Room := ({ frames := 8, cells := 1, slots := 6, locals := 181 } : Room)
def f_L_load (v0 : TXv) (v1 : TBv) (v2 : Fn) (v3 : SCv) (vh : HIv) (v7 : Int32) (v10 : Int32) (vo : FnL) : Option (Int32 × TXv × TBv × Fn × SCv × HIv × Int32 × Int32 × FnL) :=
  (f_X7_load v0 v1 v2 v3 vh v7 v10).bind (Sum.elim (fun q1664 => some ((0 : Int32), q1664.2.1, q1664.2.2.1, q1664.2.2.2.1, q1664.2.2.2.2.1, q1664.2.2.2.2.2.1, q1664.2.2.2.2.2.2.1, q1664.2.2.2.2.2.2.2, (vp_updL vo (0 : Int32).toNatClampNeg (q1664.1.toInt64)))) (fun q1664 => if q1664.1 = 2 then some ((1 : Int32), q1664.2.1, q1664.2.2.1, q1664.2.2.2.1, q1664.2.2.2.2.1, q1664.2.2.2.2.2.1, q1664.2.2.2.2.2.2.1, q1664.2.2.2.2.2.2.2, vo) else none))
set_option maxRecDepth 100000 in
set_option maxHeartbeats 4000000 in
theorem c_L_load (l : Launch) (D : va_G) (cy : Nat → ClassId) (ad : (Nat → Nat) × (Nat → Nat)) (h0 : Nat) (h1 : Nat) (h2 : Nat) (h3 : Nat) (h4 : Nat) (h5 : Nat) (h6 : Nat) (h7 : Nat) (h8 : Nat) (h9 : Nat) (t1 : Nat) (a1 : Nat) (a2 : Nat) (a3 : Nat) (a4 : Nat) (r1 : Nat) (d1 : Nat) (e1 : Nat) (o0 : Nat) (v0 : TXv) (v1 : TBv) (v2 : Fn) (v3 : SCv) (vh : HIv) (v7 : Int32) (v10 : Int32) (vo : FnL) (hfl : l.stackTraces = false) {q : Int32 × TXv × TBv × Fn × SCv × HIv × Int32 × Int32 × FnL} (hf : f_L_load v0 v1 v2 v3 vh v7 v10 vo = some q) : CMW l yL_load cL_load 3 (some .int) [(0, 8, 11, 15)] rmL_load D cy ad [.ref h0, .ref o0] [FP h0 h1 h2 h3 h4 h5 h6 h7 h8 h9, TX cy h1 t1 v0, TB cy h2 a1 a2 a3 v1, SU cy a2 a4 v2, SC a3 v3, HI h4 r1 vh, SL h5 d1 v7, SL h6 e1 v10, AL cy 1 o0 vo] (some (.int q.1)) [FP h0 h1 h2 h3 h4 h5 h6 h7 h8 h9, TX cy h1 t1 q.2.1, TB cy h2 a1 a2 a3 q.2.2.1, SU cy a2 a4 q.2.2.2.1, SC a3 q.2.2.2.2.1, HI h4 r1 q.2.2.2.2.2.1, SL h5 d1 q.2.2.2.2.2.2.1, SL h6 e1 q.2.2.2.2.2.2.2.1, AL cy 1 o0 q.2.2.2.2.2.2.2.2] := by
  refine cmw_of (lv0 := [(0, .ref h0), (1, .ref o0)]) (by decide) (Nat.le_of_ble_eq_true rfl) rfl ?_
  intro p e s m args below meth c A X hr htab
  have X : gK p s m args meth c A D cy ad cL_load 3 RL := X
  unfold f_L_load at hf
  refine g_aload_n X dL_load_0 1 rfl rfl ?_
  refine g_iconst X (0 : Int32) dL_load_1 (by decide) ?_
  refine g_aload_n X dL_load_2 0 rfl rfl ?_
  obtain ⟨q1664, hq1664, hf⟩ := obind hf
  rcases q1664 with q1664 | q1664
  · have hf := sinl hf
    refine g_xcallR (gs' := [FP h0 h1 h2 h3 h4 h5 h6 h7 h8 h9, TX cy h1 t1 q1664.2.1, TB cy h2 a1 a2 a3 q1664.2.2.1, SU cy a2 a4 q1664.2.2.2.1, SC a3 q1664.2.2.2.2.1, HI h4 r1 q1664.2.2.2.2.2.1, SL h5 d1 q1664.2.2.2.2.2.2.1, SL h6 e1 q1664.2.2.2.2.2.2.2, AL cy 1 o0 vo]) (rest := [.int (0 : Int32), .ref o0]) X dL_load_3 (c_X7_load l D cy ad h0 h1 h2 h3 h4 h5 h6 h7 h8 h9 t1 a1 a2 a3 a4 r1 d1 e1 v0 v1 v2 v3 vh v7 v10 hfl hq1664) mf_X7_load mv_X7_load lkm_L_17 ⟨(Nat.le_of_ble_eq_true rfl), (Nat.le_of_ble_eq_true rfl), (Nat.le_of_ble_eq_true rfl), (Nat.le_of_ble_eq_true rfl)⟩ 0 0 rfl rfl rfl rfl [0, 1, 2, 3, 4, 5, 6, 7, 8] _ (by decide : [0, 1, 2, 3, 4, 5, 6, 7, 8].Perm (List.range 9)) rfl (by decide : [0, 1, 2, 3, 4, 5, 6, 7, 8].Perm (List.range 9)) rfl (Nat.le_of_ble_eq_true rfl) rfl ?_
    refine g_i2l X dL_load_6 ?_
    refine g_lastore (gs' := [FP h0 h1 h2 h3 h4 h5 h6 h7 h8 h9, TX cy h1 t1 q1664.2.1, TB cy h2 a1 a2 a3 q1664.2.2.1, SU cy a2 a4 q1664.2.2.2.1, SC a3 q1664.2.2.2.2.1, HI h4 r1 q1664.2.2.2.2.2.1, SL h5 d1 q1664.2.2.2.2.2.2.1, SL h6 e1 q1664.2.2.2.2.2.2.2, AL cy 1 o0 (vp_updL vo (0 : Int32).toNatClampNeg (q1664.1.toInt64))]) X dL_load_7 8 0 rfl rfl (by decide) rfl ?_
    refine g_goto X 14 dL_load_8 (by decide) ?_
    refine g_iconst X (0 : Int32) dL_load_14 (by decide) ?_
    have hf := Option.some.inj hf
    subst hf
    exact g_iret X hr dL_load_15
  · have hf := sinr hf
    by_cases c1665 : q1664.1 = 2
    · have hf := opos c1665 hf
      refine g_xcallT (gs' := [FP h0 h1 h2 h3 h4 h5 h6 h7 h8 h9, TX cy h1 t1 q1664.2.1, TB cy h2 a1 a2 a3 q1664.2.2.1, SU cy a2 a4 q1664.2.2.2.1, SC a3 q1664.2.2.2.2.1, HI h4 r1 q1664.2.2.2.2.2.1, SL h5 d1 q1664.2.2.2.2.2.2.1, SL h6 e1 q1664.2.2.2.2.2.2.2, AL cy 1 o0 vo]) (rest := [.int (0 : Int32), .ref o0]) X dL_load_3 (c_X7_load l D cy ad h0 h1 h2 h3 h4 h5 h6 h7 h8 h9 t1 a1 a2 a3 a4 r1 d1 e1 v0 v1 v2 v3 vh v7 v10 hfl hq1664) mf_X7_load mv_X7_load lkm_L_17 ⟨(Nat.le_of_ble_eq_true rfl), (Nat.le_of_ble_eq_true rfl), (Nat.le_of_ble_eq_true rfl), (Nat.le_of_ble_eq_true rfl)⟩ 0 0 rfl rfl rfl rfl [0, 1, 2, 3, 4, 5, 6, 7, 8] _ (by decide : [0, 1, 2, 3, 4, 5, 6, 7, 8].Perm (List.range 9)) rfl (by decide : [0, 1, 2, 3, 4, 5, 6, 7, 8].Perm (List.range 9)) rfl (Nat.le_of_ble_eq_true rfl) rfl ?_
      rw [c1665]
      refine g_catch (k := 2) X htab [] ⟨0, 8, 11, 15⟩ [] rfl (fun z hz => absurd hz List.not_mem_nil) (by decide) (by decide) lkcl_15 (by decide) (fun q9 => ?_)
      refine g_astore_n (lv' := [(0, .ref h0), (1, .ref o0), (2, .ref q9)]) X dL_load_11 [1, 2, 0] rfl (Nat.le_of_ble_eq_true rfl) rfl ?_
      refine g_iconst X (1 : Int32) dL_load_12 (by decide) ?_
      have hf := Option.some.inj hf
      subst hf
      exact g_iret X hr dL_load_13
    · have hf := oneg c1665 hf
      cases hf
abbrev rmL_about : Room := ({ frames := 7, cells := 1, slots := 6, locals := 111 } : Room)
def f_L_about (v1 : TBv) (v2 : Fn) (vo : FnL) (p1 : Int32) : Option (Int32 × FnL) :=
  (f_X7_about v1 v2 p1).bind (Sum.elim (fun q1668 => some ((0 : Int32), (vp_updL vo (0 : Int32).toNatClampNeg (q1668.toInt64)))) (fun q1668 => if q1668 = 1 then some ((1 : Int32), vo) else none))
set_option maxRecDepth 100000 in
set_option maxHeartbeats 4000000 in
theorem c_L_about (l : Launch) (D : va_G) (cy : Nat → ClassId) (ad : (Nat → Nat) × (Nat → Nat)) (h0 : Nat) (h1 : Nat) (h2 : Nat) (h3 : Nat) (h4 : Nat) (h5 : Nat) (h6 : Nat) (h7 : Nat) (h8 : Nat) (h9 : Nat) (a1 : Nat) (a2 : Nat) (a3 : Nat) (a4 : Nat) (o0 : Nat) (v1 : TBv) (v2 : Fn) (vo : FnL) (p1 : Int32) (hfl : l.stackTraces = false) {q : Int32 × FnL} (hf : f_L_about v1 v2 vo p1 = some q) : CMW l yL_about cL_about 4 (some .int) [(0, 9, 12, 13)] rmL_about D cy ad [.ref h0, .int p1, .ref o0] [FP h0 h1 h2 h3 h4 h5 h6 h7 h8 h9, TB cy h2 a1 a2 a3 v1, SU cy a2 a4 v2, AL cy 1 o0 vo] (some (.int q.1)) [FP h0 h1 h2 h3 h4 h5 h6 h7 h8 h9, TB cy h2 a1 a2 a3 v1, SU cy a2 a4 v2, AL cy 1 o0 q.2] := by
  refine cmw_of (lv0 := [(0, .ref h0), (1, .int p1), (2, .ref o0)]) (by decide) (Nat.le_of_ble_eq_true rfl) rfl ?_
  intro p e s m args below meth c A X hr htab
  have X : gK p s m args meth c A D cy ad cL_about 4 RL := X
  unfold f_L_about at hf
  refine g_aload_n X dL_about_0 2 rfl rfl ?_
  refine g_iconst X (0 : Int32) dL_about_1 (by decide) ?_
  refine g_aload_n X dL_about_2 0 rfl rfl ?_
  refine g_iload_n X dL_about_3 1 rfl rfl ?_
  obtain ⟨q1668, hq1668, hf⟩ := obind hf
  rcases q1668 with q1668 | q1668
  · have hf := sinl hf
    refine g_xcallR (gs' := [FP h0 h1 h2 h3 h4 h5 h6 h7 h8 h9, TB cy h2 a1 a2 a3 v1, SU cy a2 a4 v2, AL cy 1 o0 vo]) (rest := [.int (0 : Int32), .ref o0]) X dL_about_4 (c_X7_about l D cy ad h0 h1 h2 h3 h4 h5 h6 h7 h8 h9 a1 a2 a3 a4 v1 v2 p1 hfl hq1668) mf_X7_about mv_X7_about lkm_L_21 ⟨(Nat.le_of_ble_eq_true rfl), (Nat.le_of_ble_eq_true rfl), (Nat.le_of_ble_eq_true rfl), (Nat.le_of_ble_eq_true rfl)⟩ 0 0 rfl rfl rfl rfl [0, 1, 2, 3] _ (by decide : [0, 1, 2, 3].Perm (List.range 4)) rfl (by decide : [0, 1, 2, 3].Perm (List.range 4)) rfl (Nat.le_of_ble_eq_true rfl) rfl ?_
    refine g_i2l X dL_about_7 ?_
    refine g_lastore (gs' := [FP h0 h1 h2 h3 h4 h5 h6 h7 h8 h9, TB cy h2 a1 a2 a3 v1, SU cy a2 a4 v2, AL cy 1 o0 (vp_updL vo (0 : Int32).toNatClampNeg (q1668.toInt64))]) X dL_about_8 3 0 rfl rfl (by decide) rfl ?_
    refine g_goto X 15 dL_about_9 (by decide) ?_
    refine g_iconst X (0 : Int32) dL_about_15 (by decide) ?_
    have hf := Option.some.inj hf
    subst hf
    exact g_iret X hr dL_about_16
  · have hf := sinr hf
    by_cases c1669 : q1668 = 1
    · have hf := opos c1669 hf
      refine g_xcallT (gs' := [FP h0 h1 h2 h3 h4 h5 h6 h7 h8 h9, TB cy h2 a1 a2 a3 v1, SU cy a2 a4 v2, AL cy 1 o0 vo]) (rest := [.int (0 : Int32), .ref o0]) X dL_about_4 (c_X7_about l D cy ad h0 h1 h2 h3 h4 h5 h6 h7 h8 h9 a1 a2 a3 a4 v1 v2 p1 hfl hq1668) mf_X7_about mv_X7_about lkm_L_21 ⟨(Nat.le_of_ble_eq_true rfl), (Nat.le_of_ble_eq_true rfl), (Nat.le_of_ble_eq_true rfl), (Nat.le_of_ble_eq_true rfl)⟩ 0 0 rfl rfl rfl rfl [0, 1, 2, 3] _ (by decide : [0, 1, 2, 3].Perm (List.range 4)) rfl (by decide : [0, 1, 2, 3].Perm (List.range 4)) rfl (Nat.le_of_ble_eq_true rfl) rfl ?_
      rw [c1669]
      refine g_catch (k := 1) X htab [] ⟨0, 9, 12, 13⟩ [] rfl (fun z hz => absurd hz List.not_mem_nil) (by decide) (by decide) lkcl_13 (by decide) (fun q9 => ?_)
      refine g_astore_n (lv' := [(0, .ref h0), (1, .int p1), (2, .ref o0), (3, .ref q9)]) X dL_about_12 [1, 2, 3, 0] rfl (Nat.le_of_ble_eq_true rfl) rfl ?_
      refine g_iconst X (1 : Int32) dL_about_13 (by decide) ?_
      have hf := Option.some.inj hf
      subst hf
      exact g_iret X hr dL_about_14
    · have hf := oneg c1669 hf
      cases hf
abbrev rmL_coin : Room := ({ frames := 7, cells := 1, slots := 6, locals := 111 } : Room)
def f_L_coin (v1 : TBv) (v2 : Fn) (vo : FnL) (p1 : Int32) : Option (Int32 × FnL) :=
  (f_X7_coin v1 v2 p1).bind (Sum.elim (fun q1672 => some ((0 : Int32), (vp_updL vo (0 : Int32).toNatClampNeg (q1672.toInt64)))) (fun q1672 => if q1672 = 3 then some ((1 : Int32), vo) else none))
set_option maxRecDepth 100000 in
set_option maxHeartbeats 4000000 in
theorem c_L_coin (l : Launch) (D : va_G) (cy : Nat → ClassId) (ad : (Nat → Nat) × (Nat → Nat)) (h0 : Nat) (h1 : Nat) (h2 : Nat) (h3 : Nat) (h4 : Nat) (h5 : Nat) (h6 : Nat) (h7 : Nat) (h8 : Nat) (h9 : Nat) (a1 : Nat) (a2 : Nat) (a3 : Nat) (a4 : Nat) (o0 : Nat) (v1 : TBv) (v2 : Fn) (vo : FnL) (p1 : Int32) (hfl : l.stackTraces = false) {q : Int32 × FnL} (hf : f_L_coin v1 v2 vo p1 = some q) : CMW l yL_coin cL_coin 4 (some .int) [(0, 9, 12, 27)] rmL_coin D cy ad [.ref h0, .int p1, .ref o0] [FP h0 h1 h2 h3 h4 h5 h6 h7 h8 h9, TB cy h2 a1 a2 a3 v1, SU cy a2 a4 v2, AL cy 1 o0 vo] (some (.int q.1)) [FP h0 h1 h2 h3 h4 h5 h6 h7 h8 h9, TB cy h2 a1 a2 a3 v1, SU cy a2 a4 v2, AL cy 1 o0 q.2] := by
  refine cmw_of (lv0 := [(0, .ref h0), (1, .int p1), (2, .ref o0)]) (by decide) (Nat.le_of_ble_eq_true rfl) rfl ?_
  intro p e s m args below meth c A X hr htab
  have X : gK p s m args meth c A D cy ad cL_coin 4 RL := X
  unfold f_L_coin at hf
  refine g_aload_n X dL_coin_0 2 rfl rfl ?_
  refine g_iconst X (0 : Int32) dL_coin_1 (by decide) ?_
  refine g_aload_n X dL_coin_2 0 rfl rfl ?_
  refine g_iload_n X dL_coin_3 1 rfl rfl ?_
  obtain ⟨q1672, hq1672, hf⟩ := obind hf
  rcases q1672 with q1672 | q1672
  · have hf := sinl hf
    refine g_xcallR (gs' := [FP h0 h1 h2 h3 h4 h5 h6 h7 h8 h9, TB cy h2 a1 a2 a3 v1, SU cy a2 a4 v2, AL cy 1 o0 vo]) (rest := [.int (0 : Int32), .ref o0]) X dL_coin_4 (c_X7_coin l D cy ad h0 h1 h2 h3 h4 h5 h6 h7 h8 h9 a1 a2 a3 a4 v1 v2 p1 hfl hq1672) mf_X7_coin mv_X7_coin lkm_L_24 ⟨(Nat.le_of_ble_eq_true rfl), (Nat.le_of_ble_eq_true rfl), (Nat.le_of_ble_eq_true rfl), (Nat.le_of_ble_eq_true rfl)⟩ 0 0 rfl rfl rfl rfl [0, 1, 2, 3] _ (by decide : [0, 1, 2, 3].Perm (List.range 4)) rfl (by decide : [0, 1, 2, 3].Perm (List.range 4)) rfl (Nat.le_of_ble_eq_true rfl) rfl ?_
    refine g_i2l X dL_coin_7 ?_
    refine g_lastore (gs' := [FP h0 h1 h2 h3 h4 h5 h6 h7 h8 h9, TB cy h2 a1 a2 a3 v1, SU cy a2 a4 v2, AL cy 1 o0 (vp_updL vo (0 : Int32).toNatClampNeg (q1672.toInt64))]) X dL_coin_8 3 0 rfl rfl (by decide) rfl ?_
    refine g_goto X 15 dL_coin_9 (by decide) ?_
    refine g_iconst X (0 : Int32) dL_coin_15 (by decide) ?_
    have hf := Option.some.inj hf
    subst hf
    exact g_iret X hr dL_coin_16
  · have hf := sinr hf
    by_cases c1673 : q1672 = 3
    · have hf := opos c1673 hf
      refine g_xcallT (gs' := [FP h0 h1 h2 h3 h4 h5 h6 h7 h8 h9, TB cy h2 a1 a2 a3 v1, SU cy a2 a4 v2, AL cy 1 o0 vo]) (rest := [.int (0 : Int32), .ref o0]) X dL_coin_4 (c_X7_coin l D cy ad h0 h1 h2 h3 h4 h5 h6 h7 h8 h9 a1 a2 a3 a4 v1 v2 p1 hfl hq1672) mf_X7_coin mv_X7_coin lkm_L_24 ⟨(Nat.le_of_ble_eq_true rfl), (Nat.le_of_ble_eq_true rfl), (Nat.le_of_ble_eq_true rfl), (Nat.le_of_ble_eq_true rfl)⟩ 0 0 rfl rfl rfl rfl [0, 1, 2, 3] _ (by decide : [0, 1, 2, 3].Perm (List.range 4)) rfl (by decide : [0, 1, 2, 3].Perm (List.range 4)) rfl (Nat.le_of_ble_eq_true rfl) rfl ?_
      rw [c1673]
      refine g_catch (k := 3) X htab [] ⟨0, 9, 12, 27⟩ [] rfl (fun z hz => absurd hz List.not_mem_nil) (by decide) (by decide) lkcl_27 (by decide) (fun q9 => ?_)
      refine g_astore_n (lv' := [(0, .ref h0), (1, .int p1), (2, .ref o0), (3, .ref q9)]) X dL_coin_12 [1, 2, 3, 0] rfl (Nat.le_of_ble_eq_true rfl) rfl ?_
      refine g_iconst X (1 : Int32) dL_coin_13 (by decide) ?_
      have hf := Option.some.inj hf
      subst hf
      exact g_iret X hr dL_coin_14
    · have hf := oneg c1673 hf
      cases hf
abbrev rmL_isLeft : Room := ({ frames := 7, cells := 1, slots := 6, locals := 111 } : Room)
def f_L_isLeft (v1 : TBv) (v2 : Fn) (vo : FnL) (p1 : Int32) : Option (Int32 × FnL) :=
  (f_X7_isLeft v1 v2 p1).bind (Sum.elim (fun q1676 => some ((0 : Int32), (vp_updL vo (0 : Int32).toNatClampNeg (q1676.toInt64)))) (fun q1676 => if q1676 = 3 then some ((1 : Int32), vo) else none))
set_option maxRecDepth 100000 in
set_option maxHeartbeats 4000000 in
theorem c_L_isLeft (l : Launch) (D : va_G) (cy : Nat → ClassId) (ad : (Nat → Nat) × (Nat → Nat)) (h0 : Nat) (h1 : Nat) (h2 : Nat) (h3 : Nat) (h4 : Nat) (h5 : Nat) (h6 : Nat) (h7 : Nat) (h8 : Nat) (h9 : Nat) (a1 : Nat) (a2 : Nat) (a3 : Nat) (a4 : Nat) (o0 : Nat) (v1 : TBv) (v2 : Fn) (vo : FnL) (p1 : Int32) (hfl : l.stackTraces = false) {q : Int32 × FnL} (hf : f_L_isLeft v1 v2 vo p1 = some q) : CMW l yL_isLeft cL_isLeft 4 (some .int) [(0, 9, 12, 27)] rmL_isLeft D cy ad [.ref h0, .int p1, .ref o0] [FP h0 h1 h2 h3 h4 h5 h6 h7 h8 h9, TB cy h2 a1 a2 a3 v1, SU cy a2 a4 v2, AL cy 1 o0 vo] (some (.int q.1)) [FP h0 h1 h2 h3 h4 h5 h6 h7 h8 h9, TB cy h2 a1 a2 a3 v1, SU cy a2 a4 v2, AL cy 1 o0 q.2] := by
  refine cmw_of (lv0 := [(0, .ref h0), (1, .int p1), (2, .ref o0)]) (by decide) (Nat.le_of_ble_eq_true rfl) rfl ?_
  intro p e s m args below meth c A X hr htab
  have X : gK p s m args meth c A D cy ad cL_isLeft 4 RL := X
  unfold f_L_isLeft at hf
  refine g_aload_n X dL_isLeft_0 2 rfl rfl ?_
  refine g_iconst X (0 : Int32) dL_isLeft_1 (by decide) ?_
  refine g_aload_n X dL_isLeft_2 0 rfl rfl ?_
  refine g_iload_n X dL_isLeft_3 1 rfl rfl ?_
  obtain ⟨q1676, hq1676, hf⟩ := obind hf
  rcases q1676 with q1676 | q1676
  · have hf := sinl hf
    refine g_xcallR (gs' := [FP h0 h1 h2 h3 h4 h5 h6 h7 h8 h9, TB cy h2 a1 a2 a3 v1, SU cy a2 a4 v2, AL cy 1 o0 vo]) (rest := [.int (0 : Int32), .ref o0]) X dL_isLeft_4 (c_X7_isLeft l D cy ad h0 h1 h2 h3 h4 h5 h6 h7 h8 h9 a1 a2 a3 a4 v1 v2 p1 hfl hq1676) mf_X7_isLeft mv_X7_isLeft lkm_L_29 ⟨(Nat.le_of_ble_eq_true rfl), (Nat.le_of_ble_eq_true rfl), (Nat.le_of_ble_eq_true rfl), (Nat.le_of_ble_eq_true rfl)⟩ 0 0 rfl rfl rfl rfl [0, 1, 2, 3] _ (by decide : [0, 1, 2, 3].Perm (List.range 4)) rfl (by decide : [0, 1, 2, 3].Perm (List.range 4)) rfl (Nat.le_of_ble_eq_true rfl) rfl ?_
    refine g_i2l X dL_isLeft_7 ?_
    refine g_lastore (gs' := [FP h0 h1 h2 h3 h4 h5 h6 h7 h8 h9, TB cy h2 a1 a2 a3 v1, SU cy a2 a4 v2, AL cy 1 o0 (vp_updL vo (0 : Int32).toNatClampNeg (q1676.toInt64))]) X dL_isLeft_8 3 0 rfl rfl (by decide) rfl ?_
    refine g_goto X 15 dL_isLeft_9 (by decide) ?_
    refine g_iconst X (0 : Int32) dL_isLeft_15 (by decide) ?_
    have hf := Option.some.inj hf
    subst hf
    exact g_iret X hr dL_isLeft_16
  · have hf := sinr hf
    by_cases c1677 : q1676 = 3
    · have hf := opos c1677 hf
      refine g_xcallT (gs' := [FP h0 h1 h2 h3 h4 h5 h6 h7 h8 h9, TB cy h2 a1 a2 a3 v1, SU cy a2 a4 v2, AL cy 1 o0 vo]) (rest := [.int (0 : Int32), .ref o0]) X dL_isLeft_4 (c_X7_isLeft l D cy ad h0 h1 h2 h3 h4 h5 h6 h7 h8 h9 a1 a2 a3 a4 v1 v2 p1 hfl hq1676) mf_X7_isLeft mv_X7_isLeft lkm_L_29 ⟨(Nat.le_of_ble_eq_true rfl), (Nat.le_of_ble_eq_true rfl), (Nat.le_of_ble_eq_true rfl), (Nat.le_of_ble_eq_true rfl)⟩ 0 0 rfl rfl rfl rfl [0, 1, 2, 3] _ (by decide : [0, 1, 2, 3].Perm (List.range 4)) rfl (by decide : [0, 1, 2, 3].Perm (List.range 4)) rfl (Nat.le_of_ble_eq_true rfl) rfl ?_
      rw [c1677]
      refine g_catch (k := 3) X htab [] ⟨0, 9, 12, 27⟩ [] rfl (fun z hz => absurd hz List.not_mem_nil) (by decide) (by decide) lkcl_27 (by decide) (fun q9 => ?_)
      refine g_astore_n (lv' := [(0, .ref h0), (1, .int p1), (2, .ref o0), (3, .ref q9)]) X dL_isLeft_12 [1, 2, 3, 0] rfl (Nat.le_of_ble_eq_true rfl) rfl ?_
      refine g_iconst X (1 : Int32) dL_isLeft_13 (by decide) ?_
      have hf := Option.some.inj hf
      subst hf
      exact g_iret X hr dL_isLeft_14
    · have hf := oneg c1677 hf
      cases hf
abbrev rmL_weighing : Room := ({ frames := 7, cells := 1, slots := 6, locals := 112 } : Room)
def f_L_weighing (v1 : TBv) (vo : FnL) (p1 : Int32) (p2 : Int32) : Option (Int32 × FnL) :=
  (f_X7_weighing v1 p1 p2).bind (Sum.elim (fun q1680 => some ((0 : Int32), (vp_updL vo (0 : Int32).toNatClampNeg (q1680.toInt64)))) (fun q1680 => if q1680 = 3 then some ((1 : Int32), vo) else if q1680 = 1 then some ((2 : Int32), vo) else none))
set_option maxRecDepth 100000 in
set_option maxHeartbeats 4000000 in
theorem c_L_weighing (l : Launch) (D : va_G) (cy : Nat → ClassId) (ad : (Nat → Nat) × (Nat → Nat)) (h0 : Nat) (h1 : Nat) (h2 : Nat) (h3 : Nat) (h4 : Nat) (h5 : Nat) (h6 : Nat) (h7 : Nat) (h8 : Nat) (h9 : Nat) (a1 : Nat) (a2 : Nat) (a3 : Nat) (o0 : Nat) (v1 : TBv) (vo : FnL) (p1 : Int32) (p2 : Int32) (hfl : l.stackTraces = false) {q : Int32 × FnL} (hf : f_L_weighing v1 vo p1 p2 = some q) : CMW l yL_weighing cL_weighing 5 (some .int) [(0, 10, 13, 27), (0, 10, 17, 13)] rmL_weighing D cy ad [.ref h0, .int p1, .int p2, .ref o0] [FP h0 h1 h2 h3 h4 h5 h6 h7 h8 h9, TB cy h2 a1 a2 a3 v1, AL cy 1 o0 vo] (some (.int q.1)) [FP h0 h1 h2 h3 h4 h5 h6 h7 h8 h9, TB cy h2 a1 a2 a3 v1, AL cy 1 o0 q.2] := by
  refine cmw_of (lv0 := [(0, .ref h0), (1, .int p1), (2, .int p2), (3, .ref o0)]) (by decide) (Nat.le_of_ble_eq_true rfl) rfl ?_
  intro p e s m args below meth c A X hr htab
  have X : gK p s m args meth c A D cy ad cL_weighing 5 RL := X
  unfold f_L_weighing at hf
  refine g_aload_n X dL_weighing_0 3 rfl rfl ?_
  refine g_iconst X (0 : Int32) dL_weighing_1 (by decide) ?_
  refine g_aload_n X dL_weighing_2 0 rfl rfl ?_
  refine g_iload_n X dL_weighing_3 1 rfl rfl ?_
  refine g_iload_n X dL_weighing_4 2 rfl rfl ?_
  obtain ⟨q1680, hq1680, hf⟩ := obind hf
  rcases q1680 with q1680 | q1680
  · have hf := sinl hf
    refine g_xcallR (gs' := [FP h0 h1 h2 h3 h4 h5 h6 h7 h8 h9, TB cy h2 a1 a2 a3 v1, AL cy 1 o0 vo]) (rest := [.int (0 : Int32), .ref o0]) X dL_weighing_5 (c_X7_weighing l D cy ad h0 h1 h2 h3 h4 h5 h6 h7 h8 h9 a1 a2 a3 v1 p1 p2 hfl hq1680) mf_X7_weighing mv_X7_weighing lkm_L_32 ⟨(Nat.le_of_ble_eq_true rfl), (Nat.le_of_ble_eq_true rfl), (Nat.le_of_ble_eq_true rfl), (Nat.le_of_ble_eq_true rfl)⟩ 0 0 rfl rfl rfl rfl [0, 1, 2] _ (by decide : [0, 1, 2].Perm (List.range 3)) rfl (by decide : [0, 1, 2].Perm (List.range 3)) rfl (Nat.le_of_ble_eq_true rfl) rfl ?_
    refine g_i2l X dL_weighing_8 ?_
    refine g_lastore (gs' := [FP h0 h1 h2 h3 h4 h5 h6 h7 h8 h9, TB cy h2 a1 a2 a3 v1, AL cy 1 o0 (vp_updL vo (0 : Int32).toNatClampNeg (q1680.toInt64))]) X dL_weighing_9 2 0 rfl rfl (by decide) rfl ?_
    refine g_goto X 21 dL_weighing_10 (by decide) ?_
    refine g_iconst X (0 : Int32) dL_weighing_21 (by decide) ?_
    have hf := Option.some.inj hf
    subst hf
    exact g_iret X hr dL_weighing_22
  · have hf := sinr hf
    by_cases c1681 : q1680 = 3
    · have hf := opos c1681 hf
      refine g_xcallT (gs' := [FP h0 h1 h2 h3 h4 h5 h6 h7 h8 h9, TB cy h2 a1 a2 a3 v1, AL cy 1 o0 vo]) (rest := [.int (0 : Int32), .ref o0]) X dL_weighing_5 (c_X7_weighing l D cy ad h0 h1 h2 h3 h4 h5 h6 h7 h8 h9 a1 a2 a3 v1 p1 p2 hfl hq1680) mf_X7_weighing mv_X7_weighing lkm_L_32 ⟨(Nat.le_of_ble_eq_true rfl), (Nat.le_of_ble_eq_true rfl), (Nat.le_of_ble_eq_true rfl), (Nat.le_of_ble_eq_true rfl)⟩ 0 0 rfl rfl rfl rfl [0, 1, 2] _ (by decide : [0, 1, 2].Perm (List.range 3)) rfl (by decide : [0, 1, 2].Perm (List.range 3)) rfl (Nat.le_of_ble_eq_true rfl) rfl ?_
      rw [c1681]
      refine g_catch (k := 3) X htab [] ⟨0, 10, 13, 27⟩ [⟨0, 10, 17, 13⟩] rfl (fun z hz => absurd hz List.not_mem_nil) (by decide) (by decide) lkcl_27 (by decide) (fun q9 => ?_)
      refine g_astore (lv' := [(0, .ref h0), (1, .int p1), (2, .int p2), (3, .ref o0), (4, .ref q9)]) X dL_weighing_13 [1, 2, 3, 4, 0] (Nat.le_of_ble_eq_true rfl) rfl ?_
      refine g_iconst X (1 : Int32) dL_weighing_15 (by decide) ?_
      have hf := Option.some.inj hf
      subst hf
      exact g_iret X hr dL_weighing_16
    · have hf := oneg c1681 hf
      by_cases c1682 : q1680 = 1
      · have hf := opos c1682 hf
        refine g_xcallT (gs' := [FP h0 h1 h2 h3 h4 h5 h6 h7 h8 h9, TB cy h2 a1 a2 a3 v1, AL cy 1 o0 vo]) (rest := [.int (0 : Int32), .ref o0]) X dL_weighing_5 (c_X7_weighing l D cy ad h0 h1 h2 h3 h4 h5 h6 h7 h8 h9 a1 a2 a3 v1 p1 p2 hfl hq1680) mf_X7_weighing mv_X7_weighing lkm_L_32 ⟨(Nat.le_of_ble_eq_true rfl), (Nat.le_of_ble_eq_true rfl), (Nat.le_of_ble_eq_true rfl), (Nat.le_of_ble_eq_true rfl)⟩ 0 0 rfl rfl rfl rfl [0, 1, 2] _ (by decide : [0, 1, 2].Perm (List.range 3)) rfl (by decide : [0, 1, 2].Perm (List.range 3)) rfl (Nat.le_of_ble_eq_true rfl) rfl ?_
        rw [c1682]
        refine g_catch (k := 1) X htab [⟨0, 10, 13, 27⟩] ⟨0, 10, 17, 13⟩ [] rfl (fun z hz => by cases List.mem_singleton.mp hz; exact ⟨by decide, _, lkcl_27, by decide⟩) (by decide) (by decide) lkcl_13 (by decide) (fun q9 => ?_)
        refine g_astore (lv' := [(0, .ref h0), (1, .int p1), (2, .int p2), (3, .ref o0), (4, .ref q9)]) X dL_weighing_17 [1, 2, 3, 4, 0] (Nat.le_of_ble_eq_true rfl) rfl ?_
        refine g_iconst X (2 : Int32) dL_weighing_19 (by decide) ?_
        have hf := Option.some.inj hf
        subst hf
        exact g_iret X hr dL_weighing_20
      · have hf := oneg c1682 hf
        cases hf
abbrev rmL_hide : Room := ({ frames := 7, cells := 1, slots := 6, locals := 112 } : Room)
def f_L_hide (v1 : TBv) (v2 : Fn) (vh : HIv) (vr : HRv) (vo : FnL) (p1 : Int32) (p2 : Int32) : Option (Int32 × TBv × Fn × HIv × HRv × FnL) :=
  (f_X7_hide v1 v2 vh vr p1 p2).bind (Sum.elim (fun q1685 => some ((0 : Int32), q1685.2.1, q1685.2.2.1, q1685.2.2.2.1, q1685.2.2.2.2, (vp_updL vo (0 : Int32).toNatClampNeg (q1685.1.toInt64)))) (fun q1685 => if q1685.1 = 3 then some ((1 : Int32), q1685.2.1, q1685.2.2.1, q1685.2.2.2.1, q1685.2.2.2.2, vo) else if q1685.1 = 1 then some ((2 : Int32), q1685.2.1, q1685.2.2.1, q1685.2.2.2.1, q1685.2.2.2.2, vo) else none))
set_option maxRecDepth 100000 in
set_option maxHeartbeats 4000000 in
theorem c_L_hide (l : Launch) (D : va_G) (cy : Nat → ClassId) (ad : (Nat → Nat) × (Nat → Nat)) (h0 : Nat) (h1 : Nat) (h2 : Nat) (h3 : Nat) (h4 : Nat) (h5 : Nat) (h6 : Nat) (h7 : Nat) (h8 : Nat) (h9 : Nat) (a1 : Nat) (a2 : Nat) (a3 : Nat) (a4 : Nat) (r1 : Nat) (ta : TAd) (o0 : Nat) (v1 : TBv) (v2 : Fn) (vh : HIv) (vr : HRv) (vo : FnL) (p1 : Int32) (p2 : Int32) (hfl : l.stackTraces = false) {q : Int32 × TBv × Fn × HIv × HRv × FnL} (hf : f_L_hide v1 v2 vh vr vo p1 p2 = some q) : CMW l yL_hide cL_hide 5 (some .int) [(0, 10, 13, 27), (0, 10, 17, 13)] rmL_hide D cy ad [.ref h0, .int p1, .int p2, .ref o0] [FP h0 h1 h2 h3 h4 h5 h6 h7 h8 h9, TB cy h2 a1 a2 a3 v1, SU cy a2 a4 v2, HI h4 r1 vh, HR cy r1 ta vr, AL cy 1 o0 vo] (some (.int q.1)) [FP h0 h1 h2 h3 h4 h5 h6 h7 h8 h9, TB cy h2 a1 a2 a3 q.2.1, SU cy a2 a4 q.2.2.1, HI h4 r1 q.2.2.2.1, HR cy r1 ta q.2.2.2.2.1, AL cy 1 o0 q.2.2.2.2.2] := by
  refine cmw_of (lv0 := [(0, .ref h0), (1, .int p1), (2, .int p2), (3, .ref o0)]) (by decide) (Nat.le_of_ble_eq_true rfl) rfl ?_
  intro p e s m args below meth c A X hr htab
  have X : gK p s m args meth c A D cy ad cL_hide 5 RL := X
  unfold f_L_hide at hf
  refine g_aload_n X dL_hide_0 3 rfl rfl ?_
  refine g_iconst X (0 : Int32) dL_hide_1 (by decide) ?_
  refine g_aload_n X dL_hide_2 0 rfl rfl ?_
  refine g_iload_n X dL_hide_3 1 rfl rfl ?_
  refine g_iload_n X dL_hide_4 2 rfl rfl ?_
  obtain ⟨q1685, hq1685, hf⟩ := obind hf
  rcases q1685 with q1685 | q1685
  · have hf := sinl hf
    refine g_xcallR (gs' := [FP h0 h1 h2 h3 h4 h5 h6 h7 h8 h9, TB cy h2 a1 a2 a3 q1685.2.1, SU cy a2 a4 q1685.2.2.1, HI h4 r1 q1685.2.2.2.1, HR cy r1 ta q1685.2.2.2.2, AL cy 1 o0 vo]) (rest := [.int (0 : Int32), .ref o0]) X dL_hide_5 (c_X7_hide l D cy ad h0 h1 h2 h3 h4 h5 h6 h7 h8 h9 a1 a2 a3 a4 r1 ta v1 v2 vh vr p1 p2 hfl hq1685) mf_X7_hide mv_X7_hide lkm_L_36 ⟨(Nat.le_of_ble_eq_true rfl), (Nat.le_of_ble_eq_true rfl), (Nat.le_of_ble_eq_true rfl), (Nat.le_of_ble_eq_true rfl)⟩ 0 0 rfl rfl rfl rfl [0, 1, 2, 3, 4, 5] _ (by decide : [0, 1, 2, 3, 4, 5].Perm (List.range 6)) rfl (by decide : [0, 1, 2, 3, 4, 5].Perm (List.range 6)) rfl (Nat.le_of_ble_eq_true rfl) rfl ?_
    refine g_i2l X dL_hide_8 ?_
    refine g_lastore (gs' := [FP h0 h1 h2 h3 h4 h5 h6 h7 h8 h9, TB cy h2 a1 a2 a3 q1685.2.1, SU cy a2 a4 q1685.2.2.1, HI h4 r1 q1685.2.2.2.1, HR cy r1 ta q1685.2.2.2.2, AL cy 1 o0 (vp_updL vo (0 : Int32).toNatClampNeg (q1685.1.toInt64))]) X dL_hide_9 5 0 rfl rfl (by decide) rfl ?_
    refine g_goto X 21 dL_hide_10 (by decide) ?_
    refine g_iconst X (0 : Int32) dL_hide_21 (by decide) ?_
    have hf := Option.some.inj hf
    subst hf
    exact g_iret X hr dL_hide_22
  · have hf := sinr hf
    by_cases c1686 : q1685.1 = 3
    · have hf := opos c1686 hf
      refine g_xcallT (gs' := [FP h0 h1 h2 h3 h4 h5 h6 h7 h8 h9, TB cy h2 a1 a2 a3 q1685.2.1, SU cy a2 a4 q1685.2.2.1, HI h4 r1 q1685.2.2.2.1, HR cy r1 ta q1685.2.2.2.2, AL cy 1 o0 vo]) (rest := [.int (0 : Int32), .ref o0]) X dL_hide_5 (c_X7_hide l D cy ad h0 h1 h2 h3 h4 h5 h6 h7 h8 h9 a1 a2 a3 a4 r1 ta v1 v2 vh vr p1 p2 hfl hq1685) mf_X7_hide mv_X7_hide lkm_L_36 ⟨(Nat.le_of_ble_eq_true rfl), (Nat.le_of_ble_eq_true rfl), (Nat.le_of_ble_eq_true rfl), (Nat.le_of_ble_eq_true rfl)⟩ 0 0 rfl rfl rfl rfl [0, 1, 2, 3, 4, 5] _ (by decide : [0, 1, 2, 3, 4, 5].Perm (List.range 6)) rfl (by decide : [0, 1, 2, 3, 4, 5].Perm (List.range 6)) rfl (Nat.le_of_ble_eq_true rfl) rfl ?_
      rw [c1686]
      refine g_catch (k := 3) X htab [] ⟨0, 10, 13, 27⟩ [⟨0, 10, 17, 13⟩] rfl (fun z hz => absurd hz List.not_mem_nil) (by decide) (by decide) lkcl_27 (by decide) (fun q9 => ?_)
      refine g_astore (lv' := [(0, .ref h0), (1, .int p1), (2, .int p2), (3, .ref o0), (4, .ref q9)]) X dL_hide_13 [1, 2, 3, 4, 0] (Nat.le_of_ble_eq_true rfl) rfl ?_
      refine g_iconst X (1 : Int32) dL_hide_15 (by decide) ?_
      have hf := Option.some.inj hf
      subst hf
      exact g_iret X hr dL_hide_16
    · have hf := oneg c1686 hf
      by_cases c1687 : q1685.1 = 1
      · have hf := opos c1687 hf
        refine g_xcallT (gs' := [FP h0 h1 h2 h3 h4 h5 h6 h7 h8 h9, TB cy h2 a1 a2 a3 q1685.2.1, SU cy a2 a4 q1685.2.2.1, HI h4 r1 q1685.2.2.2.1, HR cy r1 ta q1685.2.2.2.2, AL cy 1 o0 vo]) (rest := [.int (0 : Int32), .ref o0]) X dL_hide_5 (c_X7_hide l D cy ad h0 h1 h2 h3 h4 h5 h6 h7 h8 h9 a1 a2 a3 a4 r1 ta v1 v2 vh vr p1 p2 hfl hq1685) mf_X7_hide mv_X7_hide lkm_L_36 ⟨(Nat.le_of_ble_eq_true rfl), (Nat.le_of_ble_eq_true rfl), (Nat.le_of_ble_eq_true rfl), (Nat.le_of_ble_eq_true rfl)⟩ 0 0 rfl rfl rfl rfl [0, 1, 2, 3, 4, 5] _ (by decide : [0, 1, 2, 3, 4, 5].Perm (List.range 6)) rfl (by decide : [0, 1, 2, 3, 4, 5].Perm (List.range 6)) rfl (Nat.le_of_ble_eq_true rfl) rfl ?_
        rw [c1687]
        refine g_catch (k := 1) X htab [⟨0, 10, 13, 27⟩] ⟨0, 10, 17, 13⟩ [] rfl (fun z hz => by cases List.mem_singleton.mp hz; exact ⟨by decide, _, lkcl_27, by decide⟩) (by decide) (by decide) lkcl_13 (by decide) (fun q9 => ?_)
        refine g_astore (lv' := [(0, .ref h0), (1, .int p1), (2, .int p2), (3, .ref o0), (4, .ref q9)]) X dL_hide_17 [1, 2, 3, 4, 0] (Nat.le_of_ble_eq_true rfl) rfl ?_
        refine g_iconst X (2 : Int32) dL_hide_19 (by decide) ?_
        have hf := Option.some.inj hf
        subst hf
        exact g_iret X hr dL_hide_20
      · have hf := oneg c1687 hf
        cases hf
abbrev rmL_arms : Room := ({ frames := 7, cells := 1, slots := 6, locals := 112 } : Room)
def f_L_arms (v1 : TBv) (v2 : Fn) (vh : HIv) (vr : HRv) (vo : FnL) (p1 : Int32) (p2 : Int32) : Option (Int32 × TBv × HIv × HRv × FnL) :=
  (f_X7_arms v1 v2 vh vr p1 p2).bind (Sum.elim (fun q1690 => some ((0 : Int32), q1690.2.1, q1690.2.2.1, q1690.2.2.2, (vp_updL vo (0 : Int32).toNatClampNeg (q1690.1.toInt64)))) (fun q1690 => if q1690.1 = 1 then some ((1 : Int32), q1690.2.1, q1690.2.2.1, q1690.2.2.2, vo) else none))
set_option maxRecDepth 100000 in
set_option maxHeartbeats 4000000 in
theorem c_L_arms (l : Launch) (D : va_G) (cy : Nat → ClassId) (ad : (Nat → Nat) × (Nat → Nat)) (h0 : Nat) (h1 : Nat) (h2 : Nat) (h3 : Nat) (h4 : Nat) (h5 : Nat) (h6 : Nat) (h7 : Nat) (h8 : Nat) (h9 : Nat) (a1 : Nat) (a2 : Nat) (a3 : Nat) (a4 : Nat) (r1 : Nat) (ta : TAd) (o0 : Nat) (v1 : TBv) (v2 : Fn) (vh : HIv) (vr : HRv) (vo : FnL) (p1 : Int32) (p2 : Int32) (hfl : l.stackTraces = false) {q : Int32 × TBv × HIv × HRv × FnL} (hf : f_L_arms v1 v2 vh vr vo p1 p2 = some q) : CMW l yL_arms cL_arms 5 (some .int) [(0, 10, 13, 13)] rmL_arms D cy ad [.ref h0, .int p1, .int p2, .ref o0] [FP h0 h1 h2 h3 h4 h5 h6 h7 h8 h9, TB cy h2 a1 a2 a3 v1, SU cy a2 a4 v2, HI h4 r1 vh, HR cy r1 ta vr, AL cy 1 o0 vo] (some (.int q.1)) [FP h0 h1 h2 h3 h4 h5 h6 h7 h8 h9, TB cy h2 a1 a2 a3 q.2.1, SU cy a2 a4 v2, HI h4 r1 q.2.2.1, HR cy r1 ta q.2.2.2.1, AL cy 1 o0 q.2.2.2.2] := by
  refine cmw_of (lv0 := [(0, .ref h0), (1, .int p1), (2, .int p2), (3, .ref o0)]) (by decide) (Nat.le_of_ble_eq_true rfl) rfl ?_
  intro p e s m args below meth c A X hr htab
  have X : gK p s m args meth c A D cy ad cL_arms 5 RL := X
  unfold f_L_arms at hf
  refine g_aload_n X dL_arms_0 3 rfl rfl ?_
  refine g_iconst X (0 : Int32) dL_arms_1 (by decide) ?_
  refine g_aload_n X dL_arms_2 0 rfl rfl ?_
  refine g_iload_n X dL_arms_3 1 rfl rfl ?_
  refine g_iload_n X dL_arms_4 2 rfl rfl ?_
  obtain ⟨q1690, hq1690, hf⟩ := obind hf
  rcases q1690 with q1690 | q1690
  · have hf := sinl hf
    refine g_xcallR (gs' := [FP h0 h1 h2 h3 h4 h5 h6 h7 h8 h9, TB cy h2 a1 a2 a3 q1690.2.1, SU cy a2 a4 v2, HI h4 r1 q1690.2.2.1, HR cy r1 ta q1690.2.2.2, AL cy 1 o0 vo]) (rest := [.int (0 : Int32), .ref o0]) X dL_arms_5 (c_X7_arms l D cy ad h0 h1 h2 h3 h4 h5 h6 h7 h8 h9 a1 a2 a3 a4 r1 ta v1 v2 vh vr p1 p2 hfl hq1690) mf_X7_arms mv_X7_arms lkm_L_39 ⟨(Nat.le_of_ble_eq_true rfl), (Nat.le_of_ble_eq_true rfl), (Nat.le_of_ble_eq_true rfl), (Nat.le_of_ble_eq_true rfl)⟩ 0 0 rfl rfl rfl rfl [0, 1, 2, 3, 4, 5] _ (by decide : [0, 1, 2, 3, 4, 5].Perm (List.range 6)) rfl (by decide : [0, 1, 2, 3, 4, 5].Perm (List.range 6)) rfl (Nat.le_of_ble_eq_true rfl) rfl ?_
    refine g_i2l X dL_arms_8 ?_
    refine g_lastore (gs' := [FP h0 h1 h2 h3 h4 h5 h6 h7 h8 h9, TB cy h2 a1 a2 a3 q1690.2.1, SU cy a2 a4 v2, HI h4 r1 q1690.2.2.1, HR cy r1 ta q1690.2.2.2, AL cy 1 o0 (vp_updL vo (0 : Int32).toNatClampNeg (q1690.1.toInt64))]) X dL_arms_9 5 0 rfl rfl (by decide) rfl ?_
    refine g_goto X 17 dL_arms_10 (by decide) ?_
    refine g_iconst X (0 : Int32) dL_arms_17 (by decide) ?_
    have hf := Option.some.inj hf
    subst hf
    exact g_iret X hr dL_arms_18
  · have hf := sinr hf
    by_cases c1691 : q1690.1 = 1
    · have hf := opos c1691 hf
      refine g_xcallT (gs' := [FP h0 h1 h2 h3 h4 h5 h6 h7 h8 h9, TB cy h2 a1 a2 a3 q1690.2.1, SU cy a2 a4 v2, HI h4 r1 q1690.2.2.1, HR cy r1 ta q1690.2.2.2, AL cy 1 o0 vo]) (rest := [.int (0 : Int32), .ref o0]) X dL_arms_5 (c_X7_arms l D cy ad h0 h1 h2 h3 h4 h5 h6 h7 h8 h9 a1 a2 a3 a4 r1 ta v1 v2 vh vr p1 p2 hfl hq1690) mf_X7_arms mv_X7_arms lkm_L_39 ⟨(Nat.le_of_ble_eq_true rfl), (Nat.le_of_ble_eq_true rfl), (Nat.le_of_ble_eq_true rfl), (Nat.le_of_ble_eq_true rfl)⟩ 0 0 rfl rfl rfl rfl [0, 1, 2, 3, 4, 5] _ (by decide : [0, 1, 2, 3, 4, 5].Perm (List.range 6)) rfl (by decide : [0, 1, 2, 3, 4, 5].Perm (List.range 6)) rfl (Nat.le_of_ble_eq_true rfl) rfl ?_
      rw [c1691]
      refine g_catch (k := 1) X htab [] ⟨0, 10, 13, 13⟩ [] rfl (fun z hz => absurd hz List.not_mem_nil) (by decide) (by decide) lkcl_13 (by decide) (fun q9 => ?_)
      refine g_astore (lv' := [(0, .ref h0), (1, .int p1), (2, .int p2), (3, .ref o0), (4, .ref q9)]) X dL_arms_13 [1, 2, 3, 4, 0] (Nat.le_of_ble_eq_true rfl) rfl ?_
      refine g_iconst X (1 : Int32) dL_arms_15 (by decide) ?_
      have hf := Option.some.inj hf
      subst hf
      exact g_iret X hr dL_arms_16
    · have hf := oneg c1691 hf
      cases hf
abbrev rmL_weigh : Room := ({ frames := 8, cells := 2, slots := 12, locals := 134 } : Room)
def f_L_weigh (v1 : TBv) (v2 : Fn) (v3 : SCv) (vh : HIv) (vr : HRv) (vo : FnL) (p1 : Int32) (p2 : Int32) : Option (Int32 × TBv × Fn × SCv × HIv × HRv × FnL) :=
  (f_X7_weigh v1 v2 v3 vh vr p1 p2).bind (Sum.elim (fun q1694 => some ((0 : Int32), q1694.2.1, q1694.2.2.1, q1694.2.2.2.1, q1694.2.2.2.2.1, q1694.2.2.2.2.2, (vp_updL vo (0 : Int32).toNatClampNeg (q1694.1.toInt64)))) (fun q1694 => if q1694.1 = 1 then some ((1 : Int32), q1694.2.1, q1694.2.2.1, q1694.2.2.2.1, q1694.2.2.2.2.1, q1694.2.2.2.2.2, vo) else if q1694.1 = 2 then some ((2 : Int32), q1694.2.1, q1694.2.2.1, q1694.2.2.2.1, q1694.2.2.2.2.1, q1694.2.2.2.2.2, vo) else none))
set_option maxRecDepth 100000 in
set_option maxHeartbeats 4000000 in
theorem c_L_weigh (l : Launch) (D : va_G) (cy : Nat → ClassId) (ad : (Nat → Nat) × (Nat → Nat)) (h0 : Nat) (h1 : Nat) (h2 : Nat) (h3 : Nat) (h4 : Nat) (h5 : Nat) (h6 : Nat) (h7 : Nat) (h8 : Nat) (h9 : Nat) (a1 : Nat) (a2 : Nat) (a3 : Nat) (a4 : Nat) (r1 : Nat) (ta : TAd) (o0 : Nat) (v1 : TBv) (v2 : Fn) (v3 : SCv) (vh : HIv) (vr : HRv) (vo : FnL) (p1 : Int32) (p2 : Int32) (hfl : l.stackTraces = false) {q : Int32 × TBv × Fn × SCv × HIv × HRv × FnL} (hf : f_L_weigh v1 v2 v3 vh vr vo p1 p2 = some q) : CMW l yL_weigh cL_weigh 5 (some .int) [(0, 10, 13, 13), (0, 10, 17, 15)] rmL_weigh D cy ad [.ref h0, .int p1, .int p2, .ref o0] [FP h0 h1 h2 h3 h4 h5 h6 h7 h8 h9, TB cy h2 a1 a2 a3 v1, SU cy a2 a4 v2, SC a3 v3, HI h4 r1 vh, HR cy r1 ta vr, AL cy 1 o0 vo] (some (.int q.1)) [FP h0 h1 h2 h3 h4 h5 h6 h7 h8 h9, TB cy h2 a1 a2 a3 q.2.1, SU cy a2 a4 q.2.2.1, SC a3 q.2.2.2.1, HI h4 r1 q.2.2.2.2.1, HR cy r1 ta q.2.2.2.2.2.1, AL cy 1 o0 q.2.2.2.2.2.2] := by
  refine cmw_of (lv0 := [(0, .ref h0), (1, .int p1), (2, .int p2), (3, .ref o0)]) (by decide) (Nat.le_of_ble_eq_true rfl) rfl ?_
  intro p e s m args below meth c A X hr htab
  have X : gK p s m args meth c A D cy ad cL_weigh 5 RL := X
  unfold f_L_weigh at hf
  refine g_aload_n X dL_weigh_0 3 rfl rfl ?_
  refine g_iconst X (0 : Int32) dL_weigh_1 (by decide) ?_
  refine g_aload_n X dL_weigh_2 0 rfl rfl ?_
  refine g_iload_n X dL_weigh_3 1 rfl rfl ?_
  refine g_iload_n X dL_weigh_4 2 rfl rfl ?_
  obtain ⟨q1694, hq1694, hf⟩ := obind hf
  rcases q1694 with q1694 | q1694
  · have hf := sinl hf
    refine g_xcallR (gs' := [FP h0 h1 h2 h3 h4 h5 h6 h7 h8 h9, TB cy h2 a1 a2 a3 q1694.2.1, SU cy a2 a4 q1694.2.2.1, SC a3 q1694.2.2.2.1, HI h4 r1 q1694.2.2.2.2.1, HR cy r1 ta q1694.2.2.2.2.2, AL cy 1 o0 vo]) (rest := [.int (0 : Int32), .ref o0]) X dL_weigh_5 (c_X7_weigh l D cy ad h0 h1 h2 h3 h4 h5 h6 h7 h8 h9 a1 a2 a3 a4 r1 ta v1 v2 v3 vh vr p1 p2 hfl hq1694) mf_X7_weigh mv_X7_weigh lkm_L_42 ⟨(Nat.le_of_ble_eq_true rfl), (Nat.le_of_ble_eq_true rfl), (Nat.le_of_ble_eq_true rfl), (Nat.le_of_ble_eq_true rfl)⟩ 0 0 rfl rfl rfl rfl [0, 1, 2, 3, 4, 5, 6] _ (by decide : [0, 1, 2, 3, 4, 5, 6].Perm (List.range 7)) rfl (by decide : [0, 1, 2, 3, 4, 5, 6].Perm (List.range 7)) rfl (Nat.le_of_ble_eq_true rfl) rfl ?_
    refine g_i2l X dL_weigh_8 ?_
    refine g_lastore (gs' := [FP h0 h1 h2 h3 h4 h5 h6 h7 h8 h9, TB cy h2 a1 a2 a3 q1694.2.1, SU cy a2 a4 q1694.2.2.1, SC a3 q1694.2.2.2.1, HI h4 r1 q1694.2.2.2.2.1, HR cy r1 ta q1694.2.2.2.2.2, AL cy 1 o0 (vp_updL vo (0 : Int32).toNatClampNeg (q1694.1.toInt64))]) X dL_weigh_9 6 0 rfl rfl (by decide) rfl ?_
    refine g_goto X 21 dL_weigh_10 (by decide) ?_
    refine g_iconst X (0 : Int32) dL_weigh_21 (by decide) ?_
    have hf := Option.some.inj hf
    subst hf
    exact g_iret X hr dL_weigh_22
  · have hf := sinr hf
    by_cases c1695 : q1694.1 = 1
    · have hf := opos c1695 hf
      refine g_xcallT (gs' := [FP h0 h1 h2 h3 h4 h5 h6 h7 h8 h9, TB cy h2 a1 a2 a3 q1694.2.1, SU cy a2 a4 q1694.2.2.1, SC a3 q1694.2.2.2.1, HI h4 r1 q1694.2.2.2.2.1, HR cy r1 ta q1694.2.2.2.2.2, AL cy 1 o0 vo]) (rest := [.int (0 : Int32), .ref o0]) X dL_weigh_5 (c_X7_weigh l D cy ad h0 h1 h2 h3 h4 h5 h6 h7 h8 h9 a1 a2 a3 a4 r1 ta v1 v2 v3 vh vr p1 p2 hfl hq1694) mf_X7_weigh mv_X7_weigh lkm_L_42 ⟨(Nat.le_of_ble_eq_true rfl), (Nat.le_of_ble_eq_true rfl), (Nat.le_of_ble_eq_true rfl), (Nat.le_of_ble_eq_true rfl)⟩ 0 0 rfl rfl rfl rfl [0, 1, 2, 3, 4, 5, 6] _ (by decide : [0, 1, 2, 3, 4, 5, 6].Perm (List.range 7)) rfl (by decide : [0, 1, 2, 3, 4, 5, 6].Perm (List.range 7)) rfl (Nat.le_of_ble_eq_true rfl) rfl ?_
      rw [c1695]
      refine g_catch (k := 1) X htab [] ⟨0, 10, 13, 13⟩ [⟨0, 10, 17, 15⟩] rfl (fun z hz => absurd hz List.not_mem_nil) (by decide) (by decide) lkcl_13 (by decide) (fun q9 => ?_)
      refine g_astore (lv' := [(0, .ref h0), (1, .int p1), (2, .int p2), (3, .ref o0), (4, .ref q9)]) X dL_weigh_13 [1, 2, 3, 4, 0] (Nat.le_of_ble_eq_true rfl) rfl ?_
      refine g_iconst X (1 : Int32) dL_weigh_15 (by decide) ?_
      have hf := Option.some.inj hf
      subst hf
      exact g_iret X hr dL_weigh_16
    · have hf := oneg c1695 hf
      by_cases c1696 : q1694.1 = 2
      · have hf := opos c1696 hf
        refine g_xcallT (gs' := [FP h0 h1 h2 h3 h4 h5 h6 h7 h8 h9, TB cy h2 a1 a2 a3 q1694.2.1, SU cy a2 a4 q1694.2.2.1, SC a3 q1694.2.2.2.1, HI h4 r1 q1694.2.2.2.2.1, HR cy r1 ta q1694.2.2.2.2.2, AL cy 1 o0 vo]) (rest := [.int (0 : Int32), .ref o0]) X dL_weigh_5 (c_X7_weigh l D cy ad h0 h1 h2 h3 h4 h5 h6 h7 h8 h9 a1 a2 a3 a4 r1 ta v1 v2 v3 vh vr p1 p2 hfl hq1694) mf_X7_weigh mv_X7_weigh lkm_L_42 ⟨(Nat.le_of_ble_eq_true rfl), (Nat.le_of_ble_eq_true rfl), (Nat.le_of_ble_eq_true rfl), (Nat.le_of_ble_eq_true rfl)⟩ 0 0 rfl rfl rfl rfl [0, 1, 2, 3, 4, 5, 6] _ (by decide : [0, 1, 2, 3, 4, 5, 6].Perm (List.range 7)) rfl (by decide : [0, 1, 2, 3, 4, 5, 6].Perm (List.range 7)) rfl (Nat.le_of_ble_eq_true rfl) rfl ?_
        rw [c1696]
        refine g_catch (k := 2) X htab [⟨0, 10, 13, 13⟩] ⟨0, 10, 17, 15⟩ [] rfl (fun z hz => by cases List.mem_singleton.mp hz; exact ⟨by decide, _, lkcl_13, by decide⟩) (by decide) (by decide) lkcl_15 (by decide) (fun q9 => ?_)
        refine g_astore (lv' := [(0, .ref h0), (1, .int p1), (2, .int p2), (3, .ref o0), (4, .ref q9)]) X dL_weigh_17 [1, 2, 3, 4, 0] (Nat.le_of_ble_eq_true rfl) rfl ?_
        refine g_iconst X (2 : Int32) dL_weigh_19 (by decide) ?_
        have hf := Option.some.inj hf
        subst hf
        exact g_iret X hr dL_weigh_20
      · have hf := oneg c1696 hf
        cases hf
abbrev rmL_accuse : Room := ({ frames := 7, cells := 1, slots := 6, locals := 112 } : Room)
def f_L_accuse (v1 : TBv) (v2 : Fn) (vh : HIv) (vr : HRv) (vo : FnL) (p1 : Int32) (p2 : Bool) : Option (Int32 × TBv × HIv × HRv × FnL) :=
  (f_X7_accuse v1 v2 vh vr p1 p2).bind (Sum.elim (fun q1699 => some ((0 : Int32), q1699.2.1, q1699.2.2.1, q1699.2.2.2, (vp_updL vo (0 : Int32).toNatClampNeg (q1699.1.toInt64)))) (fun q1699 => if q1699.1 = 3 then some ((1 : Int32), q1699.2.1, q1699.2.2.1, q1699.2.2.2, vo) else none))
set_option maxRecDepth 100000 in
set_option maxHeartbeats 4000000 in
theorem c_L_accuse (l : Launch) (D : va_G) (cy : Nat → ClassId) (ad : (Nat → Nat) × (Nat → Nat)) (h0 : Nat) (h1 : Nat) (h2 : Nat) (h3 : Nat) (h4 : Nat) (h5 : Nat) (h6 : Nat) (h7 : Nat) (h8 : Nat) (h9 : Nat) (a1 : Nat) (a2 : Nat) (a3 : Nat) (a4 : Nat) (r1 : Nat) (ta : TAd) (o0 : Nat) (v1 : TBv) (v2 : Fn) (vh : HIv) (vr : HRv) (vo : FnL) (p1 : Int32) (p2 : Bool) (hfl : l.stackTraces = false) {q : Int32 × TBv × HIv × HRv × FnL} (hf : f_L_accuse v1 v2 vh vr vo p1 p2 = some q) : CMW l yL_accuse cL_accuse 5 (some .int) [(0, 10, 13, 27)] rmL_accuse D cy ad [.ref h0, .int p1, .int (b2i p2), .ref o0] [FP h0 h1 h2 h3 h4 h5 h6 h7 h8 h9, TB cy h2 a1 a2 a3 v1, SU cy a2 a4 v2, HI h4 r1 vh, HR cy r1 ta vr, AL cy 1 o0 vo] (some (.int q.1)) [FP h0 h1 h2 h3 h4 h5 h6 h7 h8 h9, TB cy h2 a1 a2 a3 q.2.1, SU cy a2 a4 v2, HI h4 r1 q.2.2.1, HR cy r1 ta q.2.2.2.1, AL cy 1 o0 q.2.2.2.2] := by
  refine cmw_of (lv0 := [(0, .ref h0), (1, .int p1), (2, .int (b2i p2)), (3, .ref o0)]) (by decide) (Nat.le_of_ble_eq_true rfl) rfl ?_
  intro p e s m args below meth c A X hr htab
  have X : gK p s m args meth c A D cy ad cL_accuse 5 RL := X
  unfold f_L_accuse at hf
  refine g_aload_n X dL_accuse_0 3 rfl rfl ?_
  refine g_iconst X (0 : Int32) dL_accuse_1 (by decide) ?_
  refine g_aload_n X dL_accuse_2 0 rfl rfl ?_
  refine g_iload_n X dL_accuse_3 1 rfl rfl ?_
  refine g_iload_n X dL_accuse_4 2 rfl rfl ?_
  obtain ⟨q1699, hq1699, hf⟩ := obind hf
  rcases q1699 with q1699 | q1699
  · have hf := sinl hf
    refine g_xcallR (gs' := [FP h0 h1 h2 h3 h4 h5 h6 h7 h8 h9, TB cy h2 a1 a2 a3 q1699.2.1, SU cy a2 a4 v2, HI h4 r1 q1699.2.2.1, HR cy r1 ta q1699.2.2.2, AL cy 1 o0 vo]) (rest := [.int (0 : Int32), .ref o0]) X dL_accuse_5 (c_X7_accuse l D cy ad h0 h1 h2 h3 h4 h5 h6 h7 h8 h9 a1 a2 a3 a4 r1 ta v1 v2 vh vr p1 p2 hfl hq1699) mf_X7_accuse mv_X7_accuse lkm_L_45 ⟨(Nat.le_of_ble_eq_true rfl), (Nat.le_of_ble_eq_true rfl), (Nat.le_of_ble_eq_true rfl), (Nat.le_of_ble_eq_true rfl)⟩ 0 0 rfl rfl rfl rfl [0, 1, 2, 3, 4, 5] _ (by decide : [0, 1, 2, 3, 4, 5].Perm (List.range 6)) rfl (by decide : [0, 1, 2, 3, 4, 5].Perm (List.range 6)) rfl (Nat.le_of_ble_eq_true rfl) rfl ?_
    refine g_i2l X dL_accuse_8 ?_
    refine g_lastore (gs' := [FP h0 h1 h2 h3 h4 h5 h6 h7 h8 h9, TB cy h2 a1 a2 a3 q1699.2.1, SU cy a2 a4 v2, HI h4 r1 q1699.2.2.1, HR cy r1 ta q1699.2.2.2, AL cy 1 o0 (vp_updL vo (0 : Int32).toNatClampNeg (q1699.1.toInt64))]) X dL_accuse_9 5 0 rfl rfl (by decide) rfl ?_
    refine g_goto X 17 dL_accuse_10 (by decide) ?_
    refine g_iconst X (0 : Int32) dL_accuse_17 (by decide) ?_
    have hf := Option.some.inj hf
    subst hf
    exact g_iret X hr dL_accuse_18
  · have hf := sinr hf
    by_cases c1700 : q1699.1 = 3
    · have hf := opos c1700 hf
      refine g_xcallT (gs' := [FP h0 h1 h2 h3 h4 h5 h6 h7 h8 h9, TB cy h2 a1 a2 a3 q1699.2.1, SU cy a2 a4 v2, HI h4 r1 q1699.2.2.1, HR cy r1 ta q1699.2.2.2, AL cy 1 o0 vo]) (rest := [.int (0 : Int32), .ref o0]) X dL_accuse_5 (c_X7_accuse l D cy ad h0 h1 h2 h3 h4 h5 h6 h7 h8 h9 a1 a2 a3 a4 r1 ta v1 v2 vh vr p1 p2 hfl hq1699) mf_X7_accuse mv_X7_accuse lkm_L_45 ⟨(Nat.le_of_ble_eq_true rfl), (Nat.le_of_ble_eq_true rfl), (Nat.le_of_ble_eq_true rfl), (Nat.le_of_ble_eq_true rfl)⟩ 0 0 rfl rfl rfl rfl [0, 1, 2, 3, 4, 5] _ (by decide : [0, 1, 2, 3, 4, 5].Perm (List.range 6)) rfl (by decide : [0, 1, 2, 3, 4, 5].Perm (List.range 6)) rfl (Nat.le_of_ble_eq_true rfl) rfl ?_
      rw [c1700]
      refine g_catch (k := 3) X htab [] ⟨0, 10, 13, 27⟩ [] rfl (fun z hz => absurd hz List.not_mem_nil) (by decide) (by decide) lkcl_27 (by decide) (fun q9 => ?_)
      refine g_astore (lv' := [(0, .ref h0), (1, .int p1), (2, .int (b2i p2)), (3, .ref o0), (4, .ref q9)]) X dL_accuse_13 [1, 2, 3, 4, 0] (Nat.le_of_ble_eq_true rfl) rfl ?_
      refine g_iconst X (1 : Int32) dL_accuse_15 (by decide) ?_
      have hf := Option.some.inj hf
      subst hf
      exact g_iret X hr dL_accuse_16
    · have hf := oneg c1700 hf
      cases hf
abbrev rmL_accusePan : Room := ({ frames := 7, cells := 1, slots := 6, locals := 111 } : Room)
def f_L_accusePan (v1 : TBv) (v2 : Fn) (vh : HIv) (vr : HRv) (vo : FnL) (p1 : Int32) : Option (Int32 × TBv × HIv × HRv × FnL) :=
  (f_X7_accusePan v1 v2 vh vr p1).bind (Sum.elim (fun q1703 => some ((0 : Int32), q1703.2.1, q1703.2.2.1, q1703.2.2.2, (vp_updL vo (0 : Int32).toNatClampNeg (q1703.1.toInt64)))) (fun q1703 => if q1703.1 = 1 then some ((1 : Int32), q1703.2.1, q1703.2.2.1, q1703.2.2.2, vo) else none))
set_option maxRecDepth 100000 in
set_option maxHeartbeats 4000000 in
theorem c_L_accusePan (l : Launch) (D : va_G) (cy : Nat → ClassId) (ad : (Nat → Nat) × (Nat → Nat)) (h0 : Nat) (h1 : Nat) (h2 : Nat) (h3 : Nat) (h4 : Nat) (h5 : Nat) (h6 : Nat) (h7 : Nat) (h8 : Nat) (h9 : Nat) (a1 : Nat) (a2 : Nat) (a3 : Nat) (a4 : Nat) (r1 : Nat) (ta : TAd) (o0 : Nat) (v1 : TBv) (v2 : Fn) (vh : HIv) (vr : HRv) (vo : FnL) (p1 : Int32) (hfl : l.stackTraces = false) {q : Int32 × TBv × HIv × HRv × FnL} (hf : f_L_accusePan v1 v2 vh vr vo p1 = some q) : CMW l yL_accusePan cL_accusePan 4 (some .int) [(0, 9, 12, 13)] rmL_accusePan D cy ad [.ref h0, .int p1, .ref o0] [FP h0 h1 h2 h3 h4 h5 h6 h7 h8 h9, TB cy h2 a1 a2 a3 v1, SU cy a2 a4 v2, HI h4 r1 vh, HR cy r1 ta vr, AL cy 1 o0 vo] (some (.int q.1)) [FP h0 h1 h2 h3 h4 h5 h6 h7 h8 h9, TB cy h2 a1 a2 a3 q.2.1, SU cy a2 a4 v2, HI h4 r1 q.2.2.1, HR cy r1 ta q.2.2.2.1, AL cy 1 o0 q.2.2.2.2] := by
  refine cmw_of (lv0 := [(0, .ref h0), (1, .int p1), (2, .ref o0)]) (by decide) (Nat.le_of_ble_eq_true rfl) rfl ?_
  intro p e s m args below meth c A X hr htab
  have X : gK p s m args meth c A D cy ad cL_accusePan 4 RL := X
  unfold f_L_accusePan at hf
  refine g_aload_n X dL_accusePan_0 2 rfl rfl ?_
  refine g_iconst X (0 : Int32) dL_accusePan_1 (by decide) ?_
  refine g_aload_n X dL_accusePan_2 0 rfl rfl ?_
  refine g_iload_n X dL_accusePan_3 1 rfl rfl ?_
  obtain ⟨q1703, hq1703, hf⟩ := obind hf
  rcases q1703 with q1703 | q1703
  · have hf := sinl hf
    refine g_xcallR (gs' := [FP h0 h1 h2 h3 h4 h5 h6 h7 h8 h9, TB cy h2 a1 a2 a3 q1703.2.1, SU cy a2 a4 v2, HI h4 r1 q1703.2.2.1, HR cy r1 ta q1703.2.2.2, AL cy 1 o0 vo]) (rest := [.int (0 : Int32), .ref o0]) X dL_accusePan_4 (c_X7_accusePan l D cy ad h0 h1 h2 h3 h4 h5 h6 h7 h8 h9 a1 a2 a3 a4 r1 ta v1 v2 vh vr p1 hfl hq1703) mf_X7_accusePan mv_X7_accusePan lkm_L_49 ⟨(Nat.le_of_ble_eq_true rfl), (Nat.le_of_ble_eq_true rfl), (Nat.le_of_ble_eq_true rfl), (Nat.le_of_ble_eq_true rfl)⟩ 0 0 rfl rfl rfl rfl [0, 1, 2, 3, 4, 5] _ (by decide : [0, 1, 2, 3, 4, 5].Perm (List.range 6)) rfl (by decide : [0, 1, 2, 3, 4, 5].Perm (List.range 6)) rfl (Nat.le_of_ble_eq_true rfl) rfl ?_
    refine g_i2l X dL_accusePan_7 ?_
    refine g_lastore (gs' := [FP h0 h1 h2 h3 h4 h5 h6 h7 h8 h9, TB cy h2 a1 a2 a3 q1703.2.1, SU cy a2 a4 v2, HI h4 r1 q1703.2.2.1, HR cy r1 ta q1703.2.2.2, AL cy 1 o0 (vp_updL vo (0 : Int32).toNatClampNeg (q1703.1.toInt64))]) X dL_accusePan_8 5 0 rfl rfl (by decide) rfl ?_
    refine g_goto X 15 dL_accusePan_9 (by decide) ?_
    refine g_iconst X (0 : Int32) dL_accusePan_15 (by decide) ?_
    have hf := Option.some.inj hf
    subst hf
    exact g_iret X hr dL_accusePan_16
  · have hf := sinr hf
    by_cases c1704 : q1703.1 = 1
    · have hf := opos c1704 hf
      refine g_xcallT (gs' := [FP h0 h1 h2 h3 h4 h5 h6 h7 h8 h9, TB cy h2 a1 a2 a3 q1703.2.1, SU cy a2 a4 v2, HI h4 r1 q1703.2.2.1, HR cy r1 ta q1703.2.2.2, AL cy 1 o0 vo]) (rest := [.int (0 : Int32), .ref o0]) X dL_accusePan_4 (c_X7_accusePan l D cy ad h0 h1 h2 h3 h4 h5 h6 h7 h8 h9 a1 a2 a3 a4 r1 ta v1 v2 vh vr p1 hfl hq1703) mf_X7_accusePan mv_X7_accusePan lkm_L_49 ⟨(Nat.le_of_ble_eq_true rfl), (Nat.le_of_ble_eq_true rfl), (Nat.le_of_ble_eq_true rfl), (Nat.le_of_ble_eq_true rfl)⟩ 0 0 rfl rfl rfl rfl [0, 1, 2, 3, 4, 5] _ (by decide : [0, 1, 2, 3, 4, 5].Perm (List.range 6)) rfl (by decide : [0, 1, 2, 3, 4, 5].Perm (List.range 6)) rfl (Nat.le_of_ble_eq_true rfl) rfl ?_
      rw [c1704]
      refine g_catch (k := 1) X htab [] ⟨0, 9, 12, 13⟩ [] rfl (fun z hz => absurd hz List.not_mem_nil) (by decide) (by decide) lkcl_13 (by decide) (fun q9 => ?_)
      refine g_astore_n (lv' := [(0, .ref h0), (1, .int p1), (2, .ref o0), (3, .ref q9)]) X dL_accusePan_12 [1, 2, 3, 0] rfl (Nat.le_of_ble_eq_true rfl) rfl ?_
      refine g_iconst X (1 : Int32) dL_accusePan_13 (by decide) ?_
      have hf := Option.some.inj hf
      subst hf
      exact g_iret X hr dL_accusePan_14
    · have hf := oneg c1704 hf
      cases hf
abbrev rmL_forget : Room := ({ frames := 7, cells := 1, slots := 6, locals := 110 } : Room)
def f_L_forget (v1 : TBv) (v2 : Fn) (v3 : SCv) (vh : HIv) (vr : HRv) (vo : FnL) : Option (Int32 × TBv × Fn × SCv × HIv × HRv × FnL) :=
  (f_X7_forget v1 v2 v3 vh vr).bind (Sum.elim (fun q1707 => some ((0 : Int32), q1707.2.1, q1707.2.2.1, q1707.2.2.2.1, q1707.2.2.2.2.1, q1707.2.2.2.2.2, (vp_updL vo (0 : Int32).toNatClampNeg (q1707.1.toInt64)))) (fun q1707 => if q1707.1 = 2 then some ((1 : Int32), q1707.2.1, q1707.2.2.1, q1707.2.2.2.1, q1707.2.2.2.2.1, q1707.2.2.2.2.2, vo) else none))
set_option maxRecDepth 100000 in
set_option maxHeartbeats 4000000 in
theorem c_L_forget (l : Launch) (D : va_G) (cy : Nat → ClassId) (ad : (Nat → Nat) × (Nat → Nat)) (h0 : Nat) (h1 : Nat) (h2 : Nat) (h3 : Nat) (h4 : Nat) (h5 : Nat) (h6 : Nat) (h7 : Nat) (h8 : Nat) (h9 : Nat) (a1 : Nat) (a2 : Nat) (a3 : Nat) (a4 : Nat) (r1 : Nat) (ta : TAd) (o0 : Nat) (v1 : TBv) (v2 : Fn) (v3 : SCv) (vh : HIv) (vr : HRv) (vo : FnL) (hfl : l.stackTraces = false) {q : Int32 × TBv × Fn × SCv × HIv × HRv × FnL} (hf : f_L_forget v1 v2 v3 vh vr vo = some q) : CMW l yL_forget cL_forget 3 (some .int) [(0, 8, 11, 15)] rmL_forget D cy ad [.ref h0, .ref o0] [FP h0 h1 h2 h3 h4 h5 h6 h7 h8 h9, TB cy h2 a1 a2 a3 v1, SU cy a2 a4 v2, SC a3 v3, HI h4 r1 vh, HR cy r1 ta vr, AL cy 1 o0 vo] (some (.int q.1)) [FP h0 h1 h2 h3 h4 h5 h6 h7 h8 h9, TB cy h2 a1 a2 a3 q.2.1, SU cy a2 a4 q.2.2.1, SC a3 q.2.2.2.1, HI h4 r1 q.2.2.2.2.1, HR cy r1 ta q.2.2.2.2.2.1, AL cy 1 o0 q.2.2.2.2.2.2] := by
  refine cmw_of (lv0 := [(0, .ref h0), (1, .ref o0)]) (by decide) (Nat.le_of_ble_eq_true rfl) rfl ?_
  intro p e s m args below meth c A X hr htab
  have X : gK p s m args meth c A D cy ad cL_forget 3 RL := X
  unfold f_L_forget at hf
  refine g_aload_n X dL_forget_0 1 rfl rfl ?_
  refine g_iconst X (0 : Int32) dL_forget_1 (by decide) ?_
  refine g_aload_n X dL_forget_2 0 rfl rfl ?_
  obtain ⟨q1707, hq1707, hf⟩ := obind hf
  rcases q1707 with q1707 | q1707
  · have hf := sinl hf
    refine g_xcallR (gs' := [FP h0 h1 h2 h3 h4 h5 h6 h7 h8 h9, TB cy h2 a1 a2 a3 q1707.2.1, SU cy a2 a4 q1707.2.2.1, SC a3 q1707.2.2.2.1, HI h4 r1 q1707.2.2.2.2.1, HR cy r1 ta q1707.2.2.2.2.2, AL cy 1 o0 vo]) (rest := [.int (0 : Int32), .ref o0]) X dL_forget_3 (c_X7_forget l D cy ad h0 h1 h2 h3 h4 h5 h6 h7 h8 h9 a1 a2 a3 a4 r1 ta v1 v2 v3 vh vr hfl hq1707) mf_X7_forget mv_X7_forget lkm_L_52 ⟨(Nat.le_of_ble_eq_true rfl), (Nat.le_of_ble_eq_true rfl), (Nat.le_of_ble_eq_true rfl), (Nat.le_of_ble_eq_true rfl)⟩ 0 0 rfl rfl rfl rfl [0, 1, 2, 3, 4, 5, 6] _ (by decide : [0, 1, 2, 3, 4, 5, 6].Perm (List.range 7)) rfl (by decide : [0, 1, 2, 3, 4, 5, 6].Perm (List.range 7)) rfl (Nat.le_of_ble_eq_true rfl) rfl ?_
    refine g_i2l X dL_forget_6 ?_
    refine g_lastore (gs' := [FP h0 h1 h2 h3 h4 h5 h6 h7 h8 h9, TB cy h2 a1 a2 a3 q1707.2.1, SU cy a2 a4 q1707.2.2.1, SC a3 q1707.2.2.2.1, HI h4 r1 q1707.2.2.2.2.1, HR cy r1 ta q1707.2.2.2.2.2, AL cy 1 o0 (vp_updL vo (0 : Int32).toNatClampNeg (q1707.1.toInt64))]) X dL_forget_7 6 0 rfl rfl (by decide) rfl ?_
    refine g_goto X 14 dL_forget_8 (by decide) ?_
    refine g_iconst X (0 : Int32) dL_forget_14 (by decide) ?_
    have hf := Option.some.inj hf
    subst hf
    exact g_iret X hr dL_forget_15
  · have hf := sinr hf
    by_cases c1708 : q1707.1 = 2
    · have hf := opos c1708 hf
      refine g_xcallT (gs' := [FP h0 h1 h2 h3 h4 h5 h6 h7 h8 h9, TB cy h2 a1 a2 a3 q1707.2.1, SU cy a2 a4 q1707.2.2.1, SC a3 q1707.2.2.2.1, HI h4 r1 q1707.2.2.2.2.1, HR cy r1 ta q1707.2.2.2.2.2, AL cy 1 o0 vo]) (rest := [.int (0 : Int32), .ref o0]) X dL_forget_3 (c_X7_forget l D cy ad h0 h1 h2 h3 h4 h5 h6 h7 h8 h9 a1 a2 a3 a4 r1 ta v1 v2 v3 vh vr hfl hq1707) mf_X7_forget mv_X7_forget lkm_L_52 ⟨(Nat.le_of_ble_eq_true rfl), (Nat.le_of_ble_eq_true rfl), (Nat.le_of_ble_eq_true rfl), (Nat.le_of_ble_eq_true rfl)⟩ 0 0 rfl rfl rfl rfl [0, 1, 2, 3, 4, 5, 6] _ (by decide : [0, 1, 2, 3, 4, 5, 6].Perm (List.range 7)) rfl (by decide : [0, 1, 2, 3, 4, 5, 6].Perm (List.range 7)) rfl (Nat.le_of_ble_eq_true rfl) rfl ?_
      rw [c1708]
      refine g_catch (k := 2) X htab [] ⟨0, 8, 11, 15⟩ [] rfl (fun z hz => absurd hz List.not_mem_nil) (by decide) (by decide) lkcl_15 (by decide) (fun q9 => ?_)
      refine g_astore_n (lv' := [(0, .ref h0), (1, .ref o0), (2, .ref q9)]) X dL_forget_11 [1, 2, 0] rfl (Nat.le_of_ble_eq_true rfl) rfl ?_
      refine g_iconst X (1 : Int32) dL_forget_12 (by decide) ?_
      have hf := Option.some.inj hf
      subst hf
      exact g_iret X hr dL_forget_13
    · have hf := oneg c1708 hf
      cases hf
abbrev rmL_undo : Room := ({ frames := 7, cells := 1, slots := 6, locals := 110 } : Room)
def f_L_undo (v1 : TBv) (v2 : Fn) (vh : HIv) (vr : HRv) (vo : FnL) : Option (Int32 × TBv × Fn × HIv × FnL) :=
  (f_X7_undo v1 v2 vh vr).bind (Sum.elim (fun q1711 => some ((0 : Int32), q1711.2.1, q1711.2.2.1, q1711.2.2.2, (vp_updL vo (0 : Int32).toNatClampNeg (q1711.1.toInt64)))) (fun q1711 => if q1711.1 = 2 then some ((1 : Int32), q1711.2.1, q1711.2.2.1, q1711.2.2.2, vo) else none))
set_option maxRecDepth 100000 in
set_option maxHeartbeats 4000000 in
theorem c_L_undo (l : Launch) (D : va_G) (cy : Nat → ClassId) (ad : (Nat → Nat) × (Nat → Nat)) (h0 : Nat) (h1 : Nat) (h2 : Nat) (h3 : Nat) (h4 : Nat) (h5 : Nat) (h6 : Nat) (h7 : Nat) (h8 : Nat) (h9 : Nat) (a1 : Nat) (a2 : Nat) (a3 : Nat) (a4 : Nat) (r1 : Nat) (ta : TAd) (o0 : Nat) (v1 : TBv) (v2 : Fn) (vh : HIv) (vr : HRv) (vo : FnL) (hfl : l.stackTraces = false) {q : Int32 × TBv × Fn × HIv × FnL} (hf : f_L_undo v1 v2 vh vr vo = some q) : CMW l yL_undo cL_undo 3 (some .int) [(0, 8, 11, 15)] rmL_undo D cy ad [.ref h0, .ref o0] [FP h0 h1 h2 h3 h4 h5 h6 h7 h8 h9, TB cy h2 a1 a2 a3 v1, SU cy a2 a4 v2, HI h4 r1 vh, HR cy r1 ta vr, AL cy 1 o0 vo] (some (.int q.1)) [FP h0 h1 h2 h3 h4 h5 h6 h7 h8 h9, TB cy h2 a1 a2 a3 q.2.1, SU cy a2 a4 q.2.2.1, HI h4 r1 q.2.2.2.1, HR cy r1 ta vr, AL cy 1 o0 q.2.2.2.2] := by
  refine cmw_of (lv0 := [(0, .ref h0), (1, .ref o0)]) (by decide) (Nat.le_of_ble_eq_true rfl) rfl ?_
  intro p e s m args below meth c A X hr htab
  have X : gK p s m args meth c A D cy ad cL_undo 3 RL := X
  unfold f_L_undo at hf
  refine g_aload_n X dL_undo_0 1 rfl rfl ?_
  refine g_iconst X (0 : Int32) dL_undo_1 (by decide) ?_
  refine g_aload_n X dL_undo_2 0 rfl rfl ?_
  obtain ⟨q1711, hq1711, hf⟩ := obind hf
  rcases q1711 with q1711 | q1711
  · have hf := sinl hf
    refine g_xcallR (gs' := [FP h0 h1 h2 h3 h4 h5 h6 h7 h8 h9, TB cy h2 a1 a2 a3 q1711.2.1, SU cy a2 a4 q1711.2.2.1, HI h4 r1 q1711.2.2.2, HR cy r1 ta vr, AL cy 1 o0 vo]) (rest := [.int (0 : Int32), .ref o0]) X dL_undo_3 (c_X7_undo l D cy ad h0 h1 h2 h3 h4 h5 h6 h7 h8 h9 a1 a2 a3 a4 r1 ta v1 v2 vh vr hfl hq1711) mf_X7_undo mv_X7_undo lkm_L_55 ⟨(Nat.le_of_ble_eq_true rfl), (Nat.le_of_ble_eq_true rfl), (Nat.le_of_ble_eq_true rfl), (Nat.le_of_ble_eq_true rfl)⟩ 0 0 rfl rfl rfl rfl [0, 1, 2, 3, 4, 5] _ (by decide : [0, 1, 2, 3, 4, 5].Perm (List.range 6)) rfl (by decide : [0, 1, 2, 3, 4, 5].Perm (List.range 6)) rfl (Nat.le_of_ble_eq_true rfl) rfl ?_
    refine g_i2l X dL_undo_6 ?_
    refine g_lastore (gs' := [FP h0 h1 h2 h3 h4 h5 h6 h7 h8 h9, TB cy h2 a1 a2 a3 q1711.2.1, SU cy a2 a4 q1711.2.2.1, HI h4 r1 q1711.2.2.2, HR cy r1 ta vr, AL cy 1 o0 (vp_updL vo (0 : Int32).toNatClampNeg (q1711.1.toInt64))]) X dL_undo_7 5 0 rfl rfl (by decide) rfl ?_
    refine g_goto X 14 dL_undo_8 (by decide) ?_
    refine g_iconst X (0 : Int32) dL_undo_14 (by decide) ?_
    have hf := Option.some.inj hf
    subst hf
    exact g_iret X hr dL_undo_15
  · have hf := sinr hf
    by_cases c1712 : q1711.1 = 2
    · have hf := opos c1712 hf
      refine g_xcallT (gs' := [FP h0 h1 h2 h3 h4 h5 h6 h7 h8 h9, TB cy h2 a1 a2 a3 q1711.2.1, SU cy a2 a4 q1711.2.2.1, HI h4 r1 q1711.2.2.2, HR cy r1 ta vr, AL cy 1 o0 vo]) (rest := [.int (0 : Int32), .ref o0]) X dL_undo_3 (c_X7_undo l D cy ad h0 h1 h2 h3 h4 h5 h6 h7 h8 h9 a1 a2 a3 a4 r1 ta v1 v2 vh vr hfl hq1711) mf_X7_undo mv_X7_undo lkm_L_55 ⟨(Nat.le_of_ble_eq_true rfl), (Nat.le_of_ble_eq_true rfl), (Nat.le_of_ble_eq_true rfl), (Nat.le_of_ble_eq_true rfl)⟩ 0 0 rfl rfl rfl rfl [0, 1, 2, 3, 4, 5] _ (by decide : [0, 1, 2, 3, 4, 5].Perm (List.range 6)) rfl (by decide : [0, 1, 2, 3, 4, 5].Perm (List.range 6)) rfl (Nat.le_of_ble_eq_true rfl) rfl ?_
      rw [c1712]
      refine g_catch (k := 2) X htab [] ⟨0, 8, 11, 15⟩ [] rfl (fun z hz => absurd hz List.not_mem_nil) (by decide) (by decide) lkcl_15 (by decide) (fun q9 => ?_)
      refine g_astore_n (lv' := [(0, .ref h0), (1, .ref o0), (2, .ref q9)]) X dL_undo_11 [1, 2, 0] rfl (Nat.le_of_ble_eq_true rfl) rfl ?_
      refine g_iconst X (1 : Int32) dL_undo_12 (by decide) ?_
      have hf := Option.some.inj hf
      subst hf
      exact g_iret X hr dL_undo_13
    · have hf := oneg c1712 hf
      cases hf
abbrev rmL_leaves : Room := ({ frames := 8, cells := 2, slots := 12, locals := 135 } : Room)
def f_L_leaves (v1 : TBv) (v2 : Fn) (v3 : SCv) (v13 : TAv) (vo : FnL) (p1 : Int32) (p2 : Int32) (p3 : Int32) : Option (Int32 × SCv × TAv × FnL) :=
  (f_X7_leaves v1 v2 v3 v13 p1 p2 p3).bind (Sum.elim (fun q1715 => some ((0 : Int32), q1715.2.1, q1715.2.2, (vp_updL vo (0 : Int32).toNatClampNeg (q1715.1.toInt64)))) (fun q1715 => if q1715.1 = 3 then some ((1 : Int32), q1715.2.1, q1715.2.2, vo) else if q1715.1 = 1 then some ((2 : Int32), q1715.2.1, q1715.2.2, vo) else none))
set_option maxRecDepth 100000 in
set_option maxHeartbeats 4000000 in
theorem c_L_leaves (l : Launch) (D : va_G) (cy : Nat → ClassId) (ad : (Nat → Nat) × (Nat → Nat)) (h0 : Nat) (h1 : Nat) (h2 : Nat) (h3 : Nat) (h4 : Nat) (h5 : Nat) (h6 : Nat) (h7 : Nat) (h8 : Nat) (h9 : Nat) (a1 : Nat) (a2 : Nat) (a3 : Nat) (a4 : Nat) (o0 : Nat) (v1 : TBv) (v2 : Fn) (v3 : SCv) (v13 : TAv) (vo : FnL) (p1 : Int32) (p2 : Int32) (p3 : Int32) (hfl : l.stackTraces = false) {q : Int32 × SCv × TAv × FnL} (hf : f_L_leaves v1 v2 v3 v13 vo p1 p2 p3 = some q) : CMW l yL_leaves cL_leaves 6 (some .int) [(0, 12, 15, 27), (0, 12, 19, 13)] rmL_leaves D cy ad [.ref h0, .int p1, .int p2, .int p3, .ref o0] [FP h0 h1 h2 h3 h4 h5 h6 h7 h8 h9, TB cy h2 a1 a2 a3 v1, SU cy a2 a4 v2, SC a3 v3, TA h7 v13, AL cy 1 o0 vo] (some (.int q.1)) [FP h0 h1 h2 h3 h4 h5 h6 h7 h8 h9, TB cy h2 a1 a2 a3 v1, SU cy a2 a4 v2, SC a3 q.2.1, TA h7 q.2.2.1, AL cy 1 o0 q.2.2.2] := by
  refine cmw_of (lv0 := [(0, .ref h0), (1, .int p1), (2, .int p2), (3, .int p3), (4, .ref o0)]) (by decide) (Nat.le_of_ble_eq_true rfl) rfl ?_
  intro p e s m args below meth c A X hr htab
  have X : gK p s m args meth c A D cy ad cL_leaves 6 RL := X
  unfold f_L_leaves at hf
  refine g_aload X dL_leaves_0 4 rfl ?_
  refine g_iconst X (0 : Int32) dL_leaves_2 (by decide) ?_
  refine g_aload_n X dL_leaves_3 0 rfl rfl ?_
  refine g_iload_n X dL_leaves_4 1 rfl rfl ?_
  refine g_iload_n X dL_leaves_5 2 rfl rfl ?_
  refine g_iload_n X dL_leaves_6 3 rfl rfl ?_
  obtain ⟨q1715, hq1715, hf⟩ := obind hf
  rcases q1715 with q1715 | q1715
  · have hf := sinl hf
    refine g_xcallR (gs' := [FP h0 h1 h2 h3 h4 h5 h6 h7 h8 h9, TB cy h2 a1 a2 a3 v1, SU cy a2 a4 v2, SC a3 q1715.2.1, TA h7 q1715.2.2, AL cy 1 o0 vo]) (rest := [.int (0 : Int32), .ref o0]) X dL_leaves_7 (c_X7_leaves l D cy ad h0 h1 h2 h3 h4 h5 h6 h7 h8 h9 a1 a2 a3 a4 v1 v2 v3 v13 p1 p2 p3 hfl hq1715) mf_X7_leaves mv_X7_leaves lkm_L_58 ⟨(Nat.le_of_ble_eq_true rfl), (Nat.le_of_ble_eq_true rfl), (Nat.le_of_ble_eq_true rfl), (Nat.le_of_ble_eq_true rfl)⟩ 0 0 rfl rfl rfl rfl [0, 1, 2, 3, 4, 5] _ (by decide : [0, 1, 2, 3, 4, 5].Perm (List.range 6)) rfl (by decide : [0, 1, 2, 3, 4, 5].Perm (List.range 6)) rfl (Nat.le_of_ble_eq_true rfl) rfl ?_
    refine g_i2l X dL_leaves_10 ?_
    refine g_lastore (gs' := [FP h0 h1 h2 h3 h4 h5 h6 h7 h8 h9, TB cy h2 a1 a2 a3 v1, SU cy a2 a4 v2, SC a3 q1715.2.1, TA h7 q1715.2.2, AL cy 1 o0 (vp_updL vo (0 : Int32).toNatClampNeg (q1715.1.toInt64))]) X dL_leaves_11 5 0 rfl rfl (by decide) rfl ?_
    refine g_goto X 23 dL_leaves_12 (by decide) ?_
    refine g_iconst X (0 : Int32) dL_leaves_23 (by decide) ?_
    have hf := Option.some.inj hf
    subst hf
    exact g_iret X hr dL_leaves_24
  · have hf := sinr hf
    by_cases c1716 : q1715.1 = 3
    · have hf := opos c1716 hf
      refine g_xcallT (gs' := [FP h0 h1 h2 h3 h4 h5 h6 h7 h8 h9, TB cy h2 a1 a2 a3 v1, SU cy a2 a4 v2, SC a3 q1715.2.1, TA h7 q1715.2.2, AL cy 1 o0 vo]) (rest := [.int (0 : Int32), .ref o0]) X dL_leaves_7 (c_X7_leaves l D cy ad h0 h1 h2 h3 h4 h5 h6 h7 h8 h9 a1 a2 a3 a4 v1 v2 v3 v13 p1 p2 p3 hfl hq1715) mf_X7_leaves mv_X7_leaves lkm_L_58 ⟨(Nat.le_of_ble_eq_true rfl), (Nat.le_of_ble_eq_true rfl), (Nat.le_of_ble_eq_true rfl), (Nat.le_of_ble_eq_true rfl)⟩ 0 0 rfl rfl rfl rfl [0, 1, 2, 3, 4, 5] _ (by decide : [0, 1, 2, 3, 4, 5].Perm (List.range 6)) rfl (by decide : [0, 1, 2, 3, 4, 5].Perm (List.range 6)) rfl (Nat.le_of_ble_eq_true rfl) rfl ?_
      rw [c1716]
      refine g_catch (k := 3) X htab [] ⟨0, 12, 15, 27⟩ [⟨0, 12, 19, 13⟩] rfl (fun z hz => absurd hz List.not_mem_nil) (by decide) (by decide) lkcl_27 (by decide) (fun q9 => ?_)
      refine g_astore (lv' := [(0, .ref h0), (1, .int p1), (2, .int p2), (3, .int p3), (4, .ref o0), (5, .ref q9)]) X dL_leaves_15 [1, 2, 3, 4, 5, 0] (Nat.le_of_ble_eq_true rfl) rfl ?_
      refine g_iconst X (1 : Int32) dL_leaves_17 (by decide) ?_
      have hf := Option.some.inj hf
      subst hf
      exact g_iret X hr dL_leaves_18
    · have hf := oneg c1716 hf
      by_cases c1717 : q1715.1 = 1
      · have hf := opos c1717 hf
        refine g_xcallT (gs' := [FP h0 h1 h2 h3 h4 h5 h6 h7 h8 h9, TB cy h2 a1 a2 a3 v1, SU cy a2 a4 v2, SC a3 q1715.2.1, TA h7 q1715.2.2, AL cy 1 o0 vo]) (rest := [.int (0 : Int32), .ref o0]) X dL_leaves_7 (c_X7_leaves l D cy ad h0 h1 h2 h3 h4 h5 h6 h7 h8 h9 a1 a2 a3 a4 v1 v2 v3 v13 p1 p2 p3 hfl hq1715) mf_X7_leaves mv_X7_leaves lkm_L_58 ⟨(Nat.le_of_ble_eq_true rfl), (Nat.le_of_ble_eq_true rfl), (Nat.le_of_ble_eq_true rfl), (Nat.le_of_ble_eq_true rfl)⟩ 0 0 rfl rfl rfl rfl [0, 1, 2, 3, 4, 5] _ (by decide : [0, 1, 2, 3, 4, 5].Perm (List.range 6)) rfl (by decide : [0, 1, 2, 3, 4, 5].Perm (List.range 6)) rfl (Nat.le_of_ble_eq_true rfl) rfl ?_
        rw [c1717]
        refine g_catch (k := 1) X htab [⟨0, 12, 15, 27⟩] ⟨0, 12, 19, 13⟩ [] rfl (fun z hz => by cases List.mem_singleton.mp hz; exact ⟨by decide, _, lkcl_27, by decide⟩) (by decide) (by decide) lkcl_13 (by decide) (fun q9 => ?_)
        refine g_astore (lv' := [(0, .ref h0), (1, .int p1), (2, .int p2), (3, .int p3), (4, .ref o0), (5, .ref q9)]) X dL_leaves_19 [1, 2, 3, 4, 5, 0] (Nat.le_of_ble_eq_true rfl) rfl ?_
        refine g_iconst X (2 : Int32) dL_leaves_21 (by decide) ?_
        have hf := Option.some.inj hf
        subst hf
        exact g_iret X hr dL_leaves_22
      · have hf := oneg c1717 hf
        cases hf
abbrev rmL_best : Room := ({ frames := 7, cells := 1, slots := 6, locals := 129 } : Room)
def f_L_best (v1 : TBv) (v2 : Fn) (v3 : SCv) (v13 : TAv) (v14 : Fn) (v15 : Fn) (vo : FnL) (p1 : Int32) (p2 : Int32) : Option (Int32 × SCv × TAv × FnL) :=
  (f_X7_best v1 v2 v3 v13 v14 v15 p1 p2).bind (Sum.elim (fun q1720 => some ((0 : Int32), q1720.2.1, q1720.2.2, (vp_updL vo (0 : Int32).toNatClampNeg (q1720.1.toInt64)))) (fun q1720 => if q1720.1 = 1 then some ((1 : Int32), q1720.2.1, q1720.2.2, vo) else none))
set_option maxRecDepth 100000 in
set_option maxHeartbeats 4000000 in
theorem c_L_best (l : Launch) (D : va_G) (cy : Nat → ClassId) (ad : (Nat → Nat) × (Nat → Nat)) (h0 : Nat) (h1 : Nat) (h2 : Nat) (h3 : Nat) (h4 : Nat) (h5 : Nat) (h6 : Nat) (h7 : Nat) (h8 : Nat) (h9 : Nat) (a1 : Nat) (a2 : Nat) (a3 : Nat) (a4 : Nat) (o0 : Nat) (v1 : TBv) (v2 : Fn) (v3 : SCv) (v13 : TAv) (v14 : Fn) (v15 : Fn) (vo : FnL) (p1 : Int32) (p2 : Int32) (hfl : l.stackTraces = false) {q : Int32 × SCv × TAv × FnL} (hf : f_L_best v1 v2 v3 v13 v14 v15 vo p1 p2 = some q) : CMW l yL_best cL_best 5 (some .int) [(0, 10, 13, 13)] rmL_best D cy ad [.ref h0, .int p1, .int p2, .ref o0] [FP h0 h1 h2 h3 h4 h5 h6 h7 h8 h9, TB cy h2 a1 a2 a3 v1, SU cy a2 a4 v2, SC a3 v3, TA h7 v13, AI cy 12 h8 v14, AI cy 66 h9 v15, AL cy 1 o0 vo] (some (.int q.1)) [FP h0 h1 h2 h3 h4 h5 h6 h7 h8 h9, TB cy h2 a1 a2 a3 v1, SU cy a2 a4 v2, SC a3 q.2.1, TA h7 q.2.2.1, AI cy 12 h8 v14, AI cy 66 h9 v15, AL cy 1 o0 q.2.2.2] := by
  refine cmw_of (lv0 := [(0, .ref h0), (1, .int p1), (2, .int p2), (3, .ref o0)]) (by decide) (Nat.le_of_ble_eq_true rfl) rfl ?_
  intro p e s m args below meth c A X hr htab
  have X : gK p s m args meth c A D cy ad cL_best 5 RL := X
  unfold f_L_best at hf
  refine g_aload_n X dL_best_0 3 rfl rfl ?_
  refine g_iconst X (0 : Int32) dL_best_1 (by decide) ?_
  refine g_aload_n X dL_best_2 0 rfl rfl ?_
  refine g_iload_n X dL_best_3 1 rfl rfl ?_
  refine g_iload_n X dL_best_4 2 rfl rfl ?_
  obtain ⟨q1720, hq1720, hf⟩ := obind hf
  rcases q1720 with q1720 | q1720
  · have hf := sinl hf
    refine g_xcallR (gs' := [FP h0 h1 h2 h3 h4 h5 h6 h7 h8 h9, TB cy h2 a1 a2 a3 v1, SU cy a2 a4 v2, SC a3 q1720.2.1, TA h7 q1720.2.2, AI cy 12 h8 v14, AI cy 66 h9 v15, AL cy 1 o0 vo]) (rest := [.int (0 : Int32), .ref o0]) X dL_best_5 (c_X7_best l D cy ad h0 h1 h2 h3 h4 h5 h6 h7 h8 h9 a1 a2 a3 a4 v1 v2 v3 v13 v14 v15 p1 p2 hfl hq1720) mf_X7_best mv_X7_best lkm_L_62 ⟨(Nat.le_of_ble_eq_true rfl), (Nat.le_of_ble_eq_true rfl), (Nat.le_of_ble_eq_true rfl), (Nat.le_of_ble_eq_true rfl)⟩ 0 0 rfl rfl rfl rfl [0, 1, 2, 3, 4, 5, 6, 7] _ (by decide : [0, 1, 2, 3, 4, 5, 6, 7].Perm (List.range 8)) rfl (by decide : [0, 1, 2, 3, 4, 5, 6, 7].Perm (List.range 8)) rfl (Nat.le_of_ble_eq_true rfl) rfl ?_
    refine g_i2l X dL_best_8 ?_
    refine g_lastore (gs' := [FP h0 h1 h2 h3 h4 h5 h6 h7 h8 h9, TB cy h2 a1 a2 a3 v1, SU cy a2 a4 v2, SC a3 q1720.2.1, TA h7 q1720.2.2, AI cy 12 h8 v14, AI cy 66 h9 v15, AL cy 1 o0 (vp_updL vo (0 : Int32).toNatClampNeg (q1720.1.toInt64))]) X dL_best_9 7 0 rfl rfl (by decide) rfl ?_
    refine g_goto X 17 dL_best_10 (by decide) ?_
    refine g_iconst X (0 : Int32) dL_best_17 (by decide) ?_
    have hf := Option.some.inj hf
    subst hf
    exact g_iret X hr dL_best_18
  · have hf := sinr hf
    by_cases c1721 : q1720.1 = 1
    · have hf := opos c1721 hf
      refine g_xcallT (gs' := [FP h0 h1 h2 h3 h4 h5 h6 h7 h8 h9, TB cy h2 a1 a2 a3 v1, SU cy a2 a4 v2, SC a3 q1720.2.1, TA h7 q1720.2.2, AI cy 12 h8 v14, AI cy 66 h9 v15, AL cy 1 o0 vo]) (rest := [.int (0 : Int32), .ref o0]) X dL_best_5 (c_X7_best l D cy ad h0 h1 h2 h3 h4 h5 h6 h7 h8 h9 a1 a2 a3 a4 v1 v2 v3 v13 v14 v15 p1 p2 hfl hq1720) mf_X7_best mv_X7_best lkm_L_62 ⟨(Nat.le_of_ble_eq_true rfl), (Nat.le_of_ble_eq_true rfl), (Nat.le_of_ble_eq_true rfl), (Nat.le_of_ble_eq_true rfl)⟩ 0 0 rfl rfl rfl rfl [0, 1, 2, 3, 4, 5, 6, 7] _ (by decide : [0, 1, 2, 3, 4, 5, 6, 7].Perm (List.range 8)) rfl (by decide : [0, 1, 2, 3, 4, 5, 6, 7].Perm (List.range 8)) rfl (Nat.le_of_ble_eq_true rfl) rfl ?_
      rw [c1721]
      refine g_catch (k := 1) X htab [] ⟨0, 10, 13, 13⟩ [] rfl (fun z hz => absurd hz List.not_mem_nil) (by decide) (by decide) lkcl_13 (by decide) (fun q9 => ?_)
      refine g_astore (lv' := [(0, .ref h0), (1, .int p1), (2, .int p2), (3, .ref o0), (4, .ref q9)]) X dL_best_13 [1, 2, 3, 4, 0] (Nat.le_of_ble_eq_true rfl) rfl ?_
      refine g_iconst X (1 : Int32) dL_best_15 (by decide) ?_
      have hf := Option.some.inj hf
      subst hf
      exact g_iret X hr dL_best_16
    · have hf := oneg c1721 hf
      cases hf
abbrev rmL_bestArms : Room := ({ frames := 8, cells := 2, slots := 12, locals := 138 } : Room)
def f_L_bestArms (v1 : TBv) (v2 : Fn) (v3 : SCv) (v13 : TAv) (vo : FnL) (p1 : Int32) (p2 : Int32) : Option (Int32 × SCv × TAv × FnL) :=
  (f_X7_bestArms v1 v2 v3 v13 p1 p2).bind (Sum.elim (fun q1724 => some ((0 : Int32), q1724.2.1, q1724.2.2, (vp_updL vo (0 : Int32).toNatClampNeg (q1724.1.toInt64)))) (fun q1724 => if q1724.1 = 1 then some ((1 : Int32), q1724.2.1, q1724.2.2, vo) else none))
set_option maxRecDepth 100000 in
set_option maxHeartbeats 4000000 in
theorem c_L_bestArms (l : Launch) (D : va_G) (cy : Nat → ClassId) (ad : (Nat → Nat) × (Nat → Nat)) (h0 : Nat) (h1 : Nat) (h2 : Nat) (h3 : Nat) (h4 : Nat) (h5 : Nat) (h6 : Nat) (h7 : Nat) (h8 : Nat) (h9 : Nat) (a1 : Nat) (a2 : Nat) (a3 : Nat) (a4 : Nat) (o0 : Nat) (v1 : TBv) (v2 : Fn) (v3 : SCv) (v13 : TAv) (vo : FnL) (p1 : Int32) (p2 : Int32) (hfl : l.stackTraces = false) {q : Int32 × SCv × TAv × FnL} (hf : f_L_bestArms v1 v2 v3 v13 vo p1 p2 = some q) : CMW l yL_bestArms cL_bestArms 5 (some .int) [(0, 10, 13, 13)] rmL_bestArms D cy ad [.ref h0, .int p1, .int p2, .ref o0] [FP h0 h1 h2 h3 h4 h5 h6 h7 h8 h9, TB cy h2 a1 a2 a3 v1, SU cy a2 a4 v2, SC a3 v3, TA h7 v13, AL cy 1 o0 vo] (some (.int q.1)) [FP h0 h1 h2 h3 h4 h5 h6 h7 h8 h9, TB cy h2 a1 a2 a3 v1, SU cy a2 a4 v2, SC a3 q.2.1, TA h7 q.2.2.1, AL cy 1 o0 q.2.2.2] := by
  refine cmw_of (lv0 := [(0, .ref h0), (1, .int p1), (2, .int p2), (3, .ref o0)]) (by decide) (Nat.le_of_ble_eq_true rfl) rfl ?_
  intro p e s m args below meth c A X hr htab
  have X : gK p s m args meth c A D cy ad cL_bestArms 5 RL := X
  unfold f_L_bestArms at hf
  refine g_aload_n X dL_bestArms_0 3 rfl rfl ?_
  refine g_iconst X (0 : Int32) dL_bestArms_1 (by decide) ?_
  refine g_aload_n X dL_bestArms_2 0 rfl rfl ?_
  refine g_iload_n X dL_bestArms_3 1 rfl rfl ?_
  refine g_iload_n X dL_bestArms_4 2 rfl rfl ?_
  obtain ⟨q1724, hq1724, hf⟩ := obind hf
  rcases q1724 with q1724 | q1724
  · have hf := sinl hf
    refine g_xcallR (gs' := [FP h0 h1 h2 h3 h4 h5 h6 h7 h8 h9, TB cy h2 a1 a2 a3 v1, SU cy a2 a4 v2, SC a3 q1724.2.1, TA h7 q1724.2.2, AL cy 1 o0 vo]) (rest := [.int (0 : Int32), .ref o0]) X dL_bestArms_5 (c_X7_bestArms l D cy ad h0 h1 h2 h3 h4 h5 h6 h7 h8 h9 a1 a2 a3 a4 v1 v2 v3 v13 p1 p2 hfl hq1724) mf_X7_bestArms mv_X7_bestArms lkm_L_65 ⟨(Nat.le_of_ble_eq_true rfl), (Nat.le_of_ble_eq_true rfl), (Nat.le_of_ble_eq_true rfl), (Nat.le_of_ble_eq_true rfl)⟩ 0 0 rfl rfl rfl rfl [0, 1, 2, 3, 4, 5] _ (by decide : [0, 1, 2, 3, 4, 5].Perm (List.range 6)) rfl (by decide : [0, 1, 2, 3, 4, 5].Perm (List.range 6)) rfl (Nat.le_of_ble_eq_true rfl) rfl ?_
    refine g_i2l X dL_bestArms_8 ?_
    refine g_lastore (gs' := [FP h0 h1 h2 h3 h4 h5 h6 h7 h8 h9, TB cy h2 a1 a2 a3 v1, SU cy a2 a4 v2, SC a3 q1724.2.1, TA h7 q1724.2.2, AL cy 1 o0 (vp_updL vo (0 : Int32).toNatClampNeg (q1724.1.toInt64))]) X dL_bestArms_9 5 0 rfl rfl (by decide) rfl ?_
    refine g_goto X 17 dL_bestArms_10 (by decide) ?_
    refine g_iconst X (0 : Int32) dL_bestArms_17 (by decide) ?_
    have hf := Option.some.inj hf
    subst hf
    exact g_iret X hr dL_bestArms_18
  · have hf := sinr hf
    by_cases c1725 : q1724.1 = 1
    · have hf := opos c1725 hf
      refine g_xcallT (gs' := [FP h0 h1 h2 h3 h4 h5 h6 h7 h8 h9, TB cy h2 a1 a2 a3 v1, SU cy a2 a4 v2, SC a3 q1724.2.1, TA h7 q1724.2.2, AL cy 1 o0 vo]) (rest := [.int (0 : Int32), .ref o0]) X dL_bestArms_5 (c_X7_bestArms l D cy ad h0 h1 h2 h3 h4 h5 h6 h7 h8 h9 a1 a2 a3 a4 v1 v2 v3 v13 p1 p2 hfl hq1724) mf_X7_bestArms mv_X7_bestArms lkm_L_65 ⟨(Nat.le_of_ble_eq_true rfl), (Nat.le_of_ble_eq_true rfl), (Nat.le_of_ble_eq_true rfl), (Nat.le_of_ble_eq_true rfl)⟩ 0 0 rfl rfl rfl rfl [0, 1, 2, 3, 4, 5] _ (by decide : [0, 1, 2, 3, 4, 5].Perm (List.range 6)) rfl (by decide : [0, 1, 2, 3, 4, 5].Perm (List.range 6)) rfl (Nat.le_of_ble_eq_true rfl) rfl ?_
      rw [c1725]
      refine g_catch (k := 1) X htab [] ⟨0, 10, 13, 13⟩ [] rfl (fun z hz => absurd hz List.not_mem_nil) (by decide) (by decide) lkcl_13 (by decide) (fun q9 => ?_)
      refine g_astore (lv' := [(0, .ref h0), (1, .int p1), (2, .int p2), (3, .ref o0), (4, .ref q9)]) X dL_bestArms_13 [1, 2, 3, 4, 0] (Nat.le_of_ble_eq_true rfl) rfl ?_
      refine g_iconst X (1 : Int32) dL_bestArms_15 (by decide) ?_
      have hf := Option.some.inj hf
      subst hf
      exact g_iret X hr dL_bestArms_16
    · have hf := oneg c1725 hf
      cases hf
abbrev rmL_runScript : Room := ({ frames := 7, cells := 1, slots := 6, locals := 144 } : Room)
def f_L_runScript (v1 : TBv) (v2 : Fn) (v4 : TBv) (v5 : Fn) (v6 : SCv) (vo : FnL) (p1 : Int32) (p2 : Int64) : Option (Int32 × TBv × Fn × SCv × FnL) :=
  (f_X7_runScript v1 v2 v4 v5 v6 p1 p2).bind (Sum.elim (fun q1728 => some ((0 : Int32), q1728.2.1, q1728.2.2.1, q1728.2.2.2, (vp_updL vo (0 : Int32).toNatClampNeg (q1728.1.toInt64)))) (fun q1728 => if q1728.1 = 1 then some ((1 : Int32), q1728.2.1, q1728.2.2.1, q1728.2.2.2, vo) else none))
set_option maxRecDepth 100000 in
set_option maxHeartbeats 4000000 in
theorem c_L_runScript (l : Launch) (D : va_G) (cy : Nat → ClassId) (ad : (Nat → Nat) × (Nat → Nat)) (h0 : Nat) (h1 : Nat) (h2 : Nat) (h3 : Nat) (h4 : Nat) (h5 : Nat) (h6 : Nat) (h7 : Nat) (h8 : Nat) (h9 : Nat) (a1 : Nat) (a2 : Nat) (a3 : Nat) (a4 : Nat) (b1 : Nat) (b2 : Nat) (b3 : Nat) (b4 : Nat) (o0 : Nat) (v1 : TBv) (v2 : Fn) (v4 : TBv) (v5 : Fn) (v6 : SCv) (vo : FnL) (p1 : Int32) (p2 : Int64) (hfl : l.stackTraces = false) {q : Int32 × TBv × Fn × SCv × FnL} (hf : f_L_runScript v1 v2 v4 v5 v6 vo p1 p2 = some q) : CMW l yL_runScript cL_runScript 6 (some .int) [(0, 11, 14, 13)] rmL_runScript D cy ad [.ref h0, .int p1, .long p2, .ref o0] [FP h0 h1 h2 h3 h4 h5 h6 h7 h8 h9, TB cy h2 a1 a2 a3 v1, SU cy a2 a4 v2, TB cy h3 b1 b2 b3 v4, SU cy b2 b4 v5, SC b3 v6, AL cy 1 o0 vo] (some (.int q.1)) [FP h0 h1 h2 h3 h4 h5 h6 h7 h8 h9, TB cy h2 a1 a2 a3 v1, SU cy a2 a4 v2, TB cy h3 b1 b2 b3 q.2.1, SU cy b2 b4 q.2.2.1, SC b3 q.2.2.2.1, AL cy 1 o0 q.2.2.2.2] := by
  refine cmw_of (lv0 := [(0, .ref h0), (1, .int p1), (2, .long p2), (4, .ref o0)]) (by decide) (Nat.le_of_ble_eq_true rfl) rfl ?_
  intro p e s m args below meth c A X hr htab
  have X : gK p s m args meth c A D cy ad cL_runScript 6 RL := X
  unfold f_L_runScript at hf
  refine g_aload X dL_runScript_0 3 rfl ?_
  refine g_iconst X (0 : Int32) dL_runScript_2 (by decide) ?_
  refine g_aload_n X dL_runScript_3 0 rfl rfl ?_
  refine g_iload_n X dL_runScript_4 1 rfl rfl ?_
  refine g_lload_n X dL_runScript_5 2 rfl rfl ?_
  obtain ⟨q1728, hq1728, hf⟩ := obind hf
  rcases q1728 with q1728 | q1728
  · have hf := sinl hf
    refine g_xcallR (gs' := [FP h0 h1 h2 h3 h4 h5 h6 h7 h8 h9, TB cy h2 a1 a2 a3 v1, SU cy a2 a4 v2, TB cy h3 b1 b2 b3 q1728.2.1, SU cy b2 b4 q1728.2.2.1, SC b3 q1728.2.2.2, AL cy 1 o0 vo]) (rest := [.int (0 : Int32), .ref o0]) X dL_runScript_6 (c_X7_runScript l D cy ad h0 h1 h2 h3 h4 h5 h6 h7 h8 h9 a1 a2 a3 a4 b1 b2 b3 b4 v1 v2 v4 v5 v6 p1 p2 hfl hq1728) mf_X7_runScript mv_X7_runScript lkm_L_68 ⟨(Nat.le_of_ble_eq_true rfl), (Nat.le_of_ble_eq_true rfl), (Nat.le_of_ble_eq_true rfl), (Nat.le_of_ble_eq_true rfl)⟩ 0 0 rfl rfl rfl rfl [0, 1, 2, 3, 4, 5, 6] _ (by decide : [0, 1, 2, 3, 4, 5, 6].Perm (List.range 7)) rfl (by decide : [0, 1, 2, 3, 4, 5, 6].Perm (List.range 7)) rfl (Nat.le_of_ble_eq_true rfl) rfl ?_
    refine g_i2l X dL_runScript_9 ?_
    refine g_lastore (gs' := [FP h0 h1 h2 h3 h4 h5 h6 h7 h8 h9, TB cy h2 a1 a2 a3 v1, SU cy a2 a4 v2, TB cy h3 b1 b2 b3 q1728.2.1, SU cy b2 b4 q1728.2.2.1, SC b3 q1728.2.2.2, AL cy 1 o0 (vp_updL vo (0 : Int32).toNatClampNeg (q1728.1.toInt64))]) X dL_runScript_10 6 0 rfl rfl (by decide) rfl ?_
    refine g_goto X 18 dL_runScript_11 (by decide) ?_
    refine g_iconst X (0 : Int32) dL_runScript_18 (by decide) ?_
    have hf := Option.some.inj hf
    subst hf
    exact g_iret X hr dL_runScript_19
  · have hf := sinr hf
    by_cases c1729 : q1728.1 = 1
    · have hf := opos c1729 hf
      refine g_xcallT (gs' := [FP h0 h1 h2 h3 h4 h5 h6 h7 h8 h9, TB cy h2 a1 a2 a3 v1, SU cy a2 a4 v2, TB cy h3 b1 b2 b3 q1728.2.1, SU cy b2 b4 q1728.2.2.1, SC b3 q1728.2.2.2, AL cy 1 o0 vo]) (rest := [.int (0 : Int32), .ref o0]) X dL_runScript_6 (c_X7_runScript l D cy ad h0 h1 h2 h3 h4 h5 h6 h7 h8 h9 a1 a2 a3 a4 b1 b2 b3 b4 v1 v2 v4 v5 v6 p1 p2 hfl hq1728) mf_X7_runScript mv_X7_runScript lkm_L_68 ⟨(Nat.le_of_ble_eq_true rfl), (Nat.le_of_ble_eq_true rfl), (Nat.le_of_ble_eq_true rfl), (Nat.le_of_ble_eq_true rfl)⟩ 0 0 rfl rfl rfl rfl [0, 1, 2, 3, 4, 5, 6] _ (by decide : [0, 1, 2, 3, 4, 5, 6].Perm (List.range 7)) rfl (by decide : [0, 1, 2, 3, 4, 5, 6].Perm (List.range 7)) rfl (Nat.le_of_ble_eq_true rfl) rfl ?_
      rw [c1729]
      refine g_catch (k := 1) X htab [] ⟨0, 11, 14, 13⟩ [] rfl (fun z hz => absurd hz List.not_mem_nil) (by decide) (by decide) lkcl_13 (by decide) (fun q9 => ?_)
      refine g_astore (lv' := [(0, .ref h0), (1, .int p1), (2, .long p2), (4, .ref o0), (5, .ref q9)]) X dL_runScript_14 [1, 2, 3, 4, 0] (Nat.le_of_ble_eq_true rfl) rfl ?_
      refine g_iconst X (1 : Int32) dL_runScript_16 (by decide) ?_
      have hf := Option.some.inj hf
      subst hf
      exact g_iret X hr dL_runScript_17
    · have hf := oneg c1729 hf
      cases hf
abbrev rmL_simulate : Room := ({ frames := 7, cells := 1, slots := 6, locals := 125 } : Room)
def f_L_simulate (v1 : TBv) (v2 : Fn) (v4 : TBv) (v5 : Fn) (v6 : SCv) (vo : FnL) (p1 : Int64) (p2 : Int32) : Option (Int32 × TBv × Fn × SCv × FnL) :=
  (f_X7_simulate v1 v2 v4 v5 v6 p1 p2).bind (Sum.elim (fun q1732 => some ((0 : Int32), q1732.2.1, q1732.2.2.1, q1732.2.2.2, (vp_updL vo (0 : Int32).toNatClampNeg (q1732.1.toInt64)))) (fun q1732 => if q1732.1 = 1 then some ((1 : Int32), q1732.2.1, q1732.2.2.1, q1732.2.2.2, vo) else none))
set_option maxRecDepth 100000 in
set_option maxHeartbeats 4000000 in
theorem c_L_simulate (l : Launch) (D : va_G) (cy : Nat → ClassId) (ad : (Nat → Nat) × (Nat → Nat)) (h0 : Nat) (h1 : Nat) (h2 : Nat) (h3 : Nat) (h4 : Nat) (h5 : Nat) (h6 : Nat) (h7 : Nat) (h8 : Nat) (h9 : Nat) (a1 : Nat) (a2 : Nat) (a3 : Nat) (a4 : Nat) (b1 : Nat) (b2 : Nat) (b3 : Nat) (b4 : Nat) (o0 : Nat) (v1 : TBv) (v2 : Fn) (v4 : TBv) (v5 : Fn) (v6 : SCv) (vo : FnL) (p1 : Int64) (p2 : Int32) (hfl : l.stackTraces = false) {q : Int32 × TBv × Fn × SCv × FnL} (hf : f_L_simulate v1 v2 v4 v5 v6 vo p1 p2 = some q) : CMW l yL_simulate cL_simulate 6 (some .int) [(0, 11, 14, 13)] rmL_simulate D cy ad [.ref h0, .long p1, .int p2, .ref o0] [FP h0 h1 h2 h3 h4 h5 h6 h7 h8 h9, TB cy h2 a1 a2 a3 v1, SU cy a2 a4 v2, TB cy h3 b1 b2 b3 v4, SU cy b2 b4 v5, SC b3 v6, AL cy 1 o0 vo] (some (.int q.1)) [FP h0 h1 h2 h3 h4 h5 h6 h7 h8 h9, TB cy h2 a1 a2 a3 v1, SU cy a2 a4 v2, TB cy h3 b1 b2 b3 q.2.1, SU cy b2 b4 q.2.2.1, SC b3 q.2.2.2.1, AL cy 1 o0 q.2.2.2.2] := by
  refine cmw_of (lv0 := [(0, .ref h0), (1, .long p1), (3, .int p2), (4, .ref o0)]) (by decide) (Nat.le_of_ble_eq_true rfl) rfl ?_
  intro p e s m args below meth c A X hr htab
  have X : gK p s m args meth c A D cy ad cL_simulate 6 RL := X
  unfold f_L_simulate at hf
  refine g_aload X dL_simulate_0 3 rfl ?_
  refine g_iconst X (0 : Int32) dL_simulate_2 (by decide) ?_
  refine g_aload_n X dL_simulate_3 0 rfl rfl ?_
  refine g_lload_n X dL_simulate_4 1 rfl rfl ?_
  refine g_iload_n X dL_simulate_5 2 rfl rfl ?_
  obtain ⟨q1732, hq1732, hf⟩ := obind hf
  rcases q1732 with q1732 | q1732
  · have hf := sinl hf
    refine g_xcallR (gs' := [FP h0 h1 h2 h3 h4 h5 h6 h7 h8 h9, TB cy h2 a1 a2 a3 v1, SU cy a2 a4 v2, TB cy h3 b1 b2 b3 q1732.2.1, SU cy b2 b4 q1732.2.2.1, SC b3 q1732.2.2.2, AL cy 1 o0 vo]) (rest := [.int (0 : Int32), .ref o0]) X dL_simulate_6 (c_X7_simulate l D cy ad h0 h1 h2 h3 h4 h5 h6 h7 h8 h9 a1 a2 a3 a4 b1 b2 b3 b4 v1 v2 v4 v5 v6 p1 p2 hfl hq1732) mf_X7_simulate mv_X7_simulate lkm_L_72 ⟨(Nat.le_of_ble_eq_true rfl), (Nat.le_of_ble_eq_true rfl), (Nat.le_of_ble_eq_true rfl), (Nat.le_of_ble_eq_true rfl)⟩ 0 0 rfl rfl rfl rfl [0, 1, 2, 3, 4, 5, 6] _ (by decide : [0, 1, 2, 3, 4, 5, 6].Perm (List.range 7)) rfl (by decide : [0, 1, 2, 3, 4, 5, 6].Perm (List.range 7)) rfl (Nat.le_of_ble_eq_true rfl) rfl ?_
    refine g_i2l X dL_simulate_9 ?_
    refine g_lastore (gs' := [FP h0 h1 h2 h3 h4 h5 h6 h7 h8 h9, TB cy h2 a1 a2 a3 v1, SU cy a2 a4 v2, TB cy h3 b1 b2 b3 q1732.2.1, SU cy b2 b4 q1732.2.2.1, SC b3 q1732.2.2.2, AL cy 1 o0 (vp_updL vo (0 : Int32).toNatClampNeg (q1732.1.toInt64))]) X dL_simulate_10 6 0 rfl rfl (by decide) rfl ?_
    refine g_goto X 18 dL_simulate_11 (by decide) ?_
    refine g_iconst X (0 : Int32) dL_simulate_18 (by decide) ?_
    have hf := Option.some.inj hf
    subst hf
    exact g_iret X hr dL_simulate_19
  · have hf := sinr hf
    by_cases c1733 : q1732.1 = 1
    · have hf := opos c1733 hf
      refine g_xcallT (gs' := [FP h0 h1 h2 h3 h4 h5 h6 h7 h8 h9, TB cy h2 a1 a2 a3 v1, SU cy a2 a4 v2, TB cy h3 b1 b2 b3 q1732.2.1, SU cy b2 b4 q1732.2.2.1, SC b3 q1732.2.2.2, AL cy 1 o0 vo]) (rest := [.int (0 : Int32), .ref o0]) X dL_simulate_6 (c_X7_simulate l D cy ad h0 h1 h2 h3 h4 h5 h6 h7 h8 h9 a1 a2 a3 a4 b1 b2 b3 b4 v1 v2 v4 v5 v6 p1 p2 hfl hq1732) mf_X7_simulate mv_X7_simulate lkm_L_72 ⟨(Nat.le_of_ble_eq_true rfl), (Nat.le_of_ble_eq_true rfl), (Nat.le_of_ble_eq_true rfl), (Nat.le_of_ble_eq_true rfl)⟩ 0 0 rfl rfl rfl rfl [0, 1, 2, 3, 4, 5, 6] _ (by decide : [0, 1, 2, 3, 4, 5, 6].Perm (List.range 7)) rfl (by decide : [0, 1, 2, 3, 4, 5, 6].Perm (List.range 7)) rfl (Nat.le_of_ble_eq_true rfl) rfl ?_
      rw [c1733]
      refine g_catch (k := 1) X htab [] ⟨0, 11, 14, 13⟩ [] rfl (fun z hz => absurd hz List.not_mem_nil) (by decide) (by decide) lkcl_13 (by decide) (fun q9 => ?_)
      refine g_astore (lv' := [(0, .ref h0), (1, .long p1), (3, .int p2), (4, .ref o0), (5, .ref q9)]) X dL_simulate_14 [1, 2, 3, 4, 0] (Nat.le_of_ble_eq_true rfl) rfl ?_
      refine g_iconst X (1 : Int32) dL_simulate_16 (by decide) ?_
      have hf := Option.some.inj hf
      subst hf
      exact g_iret X hr dL_simulate_17
    · have hf := oneg c1733 hf
      cases hf
abbrev rmL_save : Room := ({ frames := 7, cells := 1, slots := 6, locals := 112 } : Room)
def f_L_save (v1 : TBv) (v2 : Fn) (v7 : Int32) (v8 : TBv) (v9 : Fn) (v10 : Int32) (v11 : TBv) (v12 : Fn) (vo : FnL) (p1 : Int32) : Option (Int32 × Int32 × TBv × Fn × Int32 × TBv × Fn × FnL) :=
  (f_X7_save v1 v2 v7 v8 v9 v10 v11 v12 p1).bind (Sum.elim (fun q1736 => some ((0 : Int32), q1736.2.1, q1736.2.2.1, q1736.2.2.2.1, q1736.2.2.2.2.1, q1736.2.2.2.2.2.1, q1736.2.2.2.2.2.2, (vp_updL vo (0 : Int32).toNatClampNeg (q1736.1.toInt64)))) (fun q1736 => if q1736.1 = 3 then some ((1 : Int32), q1736.2.1, q1736.2.2.1, q1736.2.2.2.1, q1736.2.2.2.2.1, q1736.2.2.2.2.2.1, q1736.2.2.2.2.2.2, vo) else none))
set_option maxRecDepth 100000 in
set_option maxHeartbeats 4000000 in
theorem c_L_save (l : Launch) (D : va_G) (cy : Nat → ClassId) (ad : (Nat → Nat) × (Nat → Nat)) (h0 : Nat) (h1 : Nat) (h2 : Nat) (h3 : Nat) (h4 : Nat) (h5 : Nat) (h6 : Nat) (h7 : Nat) (h8 : Nat) (h9 : Nat) (a1 : Nat) (a2 : Nat) (a3 : Nat) (a4 : Nat) (d1 : Nat) (d2 : Nat) (d3 : Nat) (d4 : Nat) (d5 : Nat) (e1 : Nat) (e2 : Nat) (e3 : Nat) (e4 : Nat) (e5 : Nat) (o0 : Nat) (v1 : TBv) (v2 : Fn) (v7 : Int32) (v8 : TBv) (v9 : Fn) (v10 : Int32) (v11 : TBv) (v12 : Fn) (vo : FnL) (p1 : Int32) (hfl : l.stackTraces = false) {q : Int32 × Int32 × TBv × Fn × Int32 × TBv × Fn × FnL} (hf : f_L_save v1 v2 v7 v8 v9 v10 v11 v12 vo p1 = some q) : CMW l yL_save cL_save 4 (some .int) [(0, 9, 12, 27)] rmL_save D cy ad [.ref h0, .int p1, .ref o0] [FP h0 h1 h2 h3 h4 h5 h6 h7 h8 h9, TB cy h2 a1 a2 a3 v1, SU cy a2 a4 v2, SL h5 d1 v7, TB cy d1 d2 d3 d4 v8, SU cy d3 d5 v9, SL h6 e1 v10, TB cy e1 e2 e3 e4 v11, SU cy e3 e5 v12, AL cy 1 o0 vo] (some (.int q.1)) [FP h0 h1 h2 h3 h4 h5 h6 h7 h8 h9, TB cy h2 a1 a2 a3 v1, SU cy a2 a4 v2, SL h5 d1 q.2.1, TB cy d1 d2 d3 d4 q.2.2.1, SU cy d3 d5 q.2.2.2.1, SL h6 e1 q.2.2.2.2.1, TB cy e1 e2 e3 e4 q.2.2.2.2.2.1, SU cy e3 e5 q.2.2.2.2.2.2.1, AL cy 1 o0 q.2.2.2.2.2.2.2] := by
  refine cmw_of (lv0 := [(0, .ref h0), (1, .int p1), (2, .ref o0)]) (by decide) (Nat.le_of_ble_eq_true rfl) rfl ?_
  intro p e s m args below meth c A X hr htab
  have X : gK p s m args meth c A D cy ad cL_save 4 RL := X
  unfold f_L_save at hf
  refine g_aload_n X dL_save_0 2 rfl rfl ?_
  refine g_iconst X (0 : Int32) dL_save_1 (by decide) ?_
  refine g_aload_n X dL_save_2 0 rfl rfl ?_
  refine g_iload_n X dL_save_3 1 rfl rfl ?_
  obtain ⟨q1736, hq1736, hf⟩ := obind hf
  rcases q1736 with q1736 | q1736
  · have hf := sinl hf
    refine g_xcallR (gs' := [FP h0 h1 h2 h3 h4 h5 h6 h7 h8 h9, TB cy h2 a1 a2 a3 v1, SU cy a2 a4 v2, SL h5 d1 q1736.2.1, TB cy d1 d2 d3 d4 q1736.2.2.1, SU cy d3 d5 q1736.2.2.2.1, SL h6 e1 q1736.2.2.2.2.1, TB cy e1 e2 e3 e4 q1736.2.2.2.2.2.1, SU cy e3 e5 q1736.2.2.2.2.2.2, AL cy 1 o0 vo]) (rest := [.int (0 : Int32), .ref o0]) X dL_save_4 (c_X7_save l D cy ad h0 h1 h2 h3 h4 h5 h6 h7 h8 h9 a1 a2 a3 a4 d1 d2 d3 d4 d5 e1 e2 e3 e4 e5 v1 v2 v7 v8 v9 v10 v11 v12 p1 hfl hq1736) mf_X7_save mv_X7_save lkm_L_76 ⟨(Nat.le_of_ble_eq_true rfl), (Nat.le_of_ble_eq_true rfl), (Nat.le_of_ble_eq_true rfl), (Nat.le_of_ble_eq_true rfl)⟩ 0 0 rfl rfl rfl rfl [0, 1, 2, 3, 4, 5, 6, 7, 8, 9] _ (by decide : [0, 1, 2, 3, 4, 5, 6, 7, 8, 9].Perm (List.range 10)) rfl (by decide : [0, 1, 2, 3, 4, 5, 6, 7, 8, 9].Perm (List.range 10)) rfl (Nat.le_of_ble_eq_true rfl) rfl ?_
    refine g_i2l X dL_save_7 ?_
    refine g_lastore (gs' := [FP h0 h1 h2 h3 h4 h5 h6 h7 h8 h9, TB cy h2 a1 a2 a3 v1, SU cy a2 a4 v2, SL h5 d1 q1736.2.1, TB cy d1 d2 d3 d4 q1736.2.2.1, SU cy d3 d5 q1736.2.2.2.1, SL h6 e1 q1736.2.2.2.2.1, TB cy e1 e2 e3 e4 q1736.2.2.2.2.2.1, SU cy e3 e5 q1736.2.2.2.2.2.2, AL cy 1 o0 (vp_updL vo (0 : Int32).toNatClampNeg (q1736.1.toInt64))]) X dL_save_8 9 0 rfl rfl (by decide) rfl ?_
    refine g_goto X 15 dL_save_9 (by decide) ?_
    refine g_iconst X (0 : Int32) dL_save_15 (by decide) ?_
    have hf := Option.some.inj hf
    subst hf
    exact g_iret X hr dL_save_16
  · have hf := sinr hf
    by_cases c1737 : q1736.1 = 3
    · have hf := opos c1737 hf
      refine g_xcallT (gs' := [FP h0 h1 h2 h3 h4 h5 h6 h7 h8 h9, TB cy h2 a1 a2 a3 v1, SU cy a2 a4 v2, SL h5 d1 q1736.2.1, TB cy d1 d2 d3 d4 q1736.2.2.1, SU cy d3 d5 q1736.2.2.2.1, SL h6 e1 q1736.2.2.2.2.1, TB cy e1 e2 e3 e4 q1736.2.2.2.2.2.1, SU cy e3 e5 q1736.2.2.2.2.2.2, AL cy 1 o0 vo]) (rest := [.int (0 : Int32), .ref o0]) X dL_save_4 (c_X7_save l D cy ad h0 h1 h2 h3 h4 h5 h6 h7 h8 h9 a1 a2 a3 a4 d1 d2 d3 d4 d5 e1 e2 e3 e4 e5 v1 v2 v7 v8 v9 v10 v11 v12 p1 hfl hq1736) mf_X7_save mv_X7_save lkm_L_76 ⟨(Nat.le_of_ble_eq_true rfl), (Nat.le_of_ble_eq_true rfl), (Nat.le_of_ble_eq_true rfl), (Nat.le_of_ble_eq_true rfl)⟩ 0 0 rfl rfl rfl rfl [0, 1, 2, 3, 4, 5, 6, 7, 8, 9] _ (by decide : [0, 1, 2, 3, 4, 5, 6, 7, 8, 9].Perm (List.range 10)) rfl (by decide : [0, 1, 2, 3, 4, 5, 6, 7, 8, 9].Perm (List.range 10)) rfl (Nat.le_of_ble_eq_true rfl) rfl ?_
      rw [c1737]
      refine g_catch (k := 3) X htab [] ⟨0, 9, 12, 27⟩ [] rfl (fun z hz => absurd hz List.not_mem_nil) (by decide) (by decide) lkcl_27 (by decide) (fun q9 => ?_)
      refine g_astore_n (lv' := [(0, .ref h0), (1, .int p1), (2, .ref o0), (3, .ref q9)]) X dL_save_12 [1, 2, 3, 0] rfl (Nat.le_of_ble_eq_true rfl) rfl ?_
      refine g_iconst X (1 : Int32) dL_save_13 (by decide) ?_
      have hf := Option.some.inj hf
      subst hf
      exact g_iret X hr dL_save_14
    · have hf := oneg c1737 hf
      cases hf
abbrev rmL_restore : Room := ({ frames := 7, cells := 1, slots := 6, locals := 112 } : Room)
def f_L_restore (v1 : TBv) (v2 : Fn) (vh : HIv) (v7 : Int32) (v8 : TBv) (v9 : Fn) (v10 : Int32) (v11 : TBv) (v12 : Fn) (vo : FnL) (p1 : Int32) : Option (Int32 × TBv × Fn × HIv × FnL) :=
  (f_X7_restore v1 v2 vh v7 v8 v9 v10 v11 v12 p1).bind (Sum.elim (fun q1740 => some ((0 : Int32), q1740.2.1, q1740.2.2.1, q1740.2.2.2, (vp_updL vo (0 : Int32).toNatClampNeg (q1740.1.toInt64)))) (fun q1740 => if q1740.1 = 3 then some ((1 : Int32), q1740.2.1, q1740.2.2.1, q1740.2.2.2, vo) else if q1740.1 = 2 then some ((2 : Int32), q1740.2.1, q1740.2.2.1, q1740.2.2.2, vo) else none))
set_option maxRecDepth 100000 in
set_option maxHeartbeats 4000000 in
theorem c_L_restore (l : Launch) (D : va_G) (cy : Nat → ClassId) (ad : (Nat → Nat) × (Nat → Nat)) (h0 : Nat) (h1 : Nat) (h2 : Nat) (h3 : Nat) (h4 : Nat) (h5 : Nat) (h6 : Nat) (h7 : Nat) (h8 : Nat) (h9 : Nat) (a1 : Nat) (a2 : Nat) (a3 : Nat) (a4 : Nat) (r1 : Nat) (d1 : Nat) (d2 : Nat) (d3 : Nat) (d4 : Nat) (d5 : Nat) (e1 : Nat) (e2 : Nat) (e3 : Nat) (e4 : Nat) (e5 : Nat) (o0 : Nat) (v1 : TBv) (v2 : Fn) (vh : HIv) (v7 : Int32) (v8 : TBv) (v9 : Fn) (v10 : Int32) (v11 : TBv) (v12 : Fn) (vo : FnL) (p1 : Int32) (hfl : l.stackTraces = false) {q : Int32 × TBv × Fn × HIv × FnL} (hf : f_L_restore v1 v2 vh v7 v8 v9 v10 v11 v12 vo p1 = some q) : CMW l yL_restore cL_restore 4 (some .int) [(0, 9, 12, 27), (0, 9, 15, 15)] rmL_restore D cy ad [.ref h0, .int p1, .ref o0] [FP h0 h1 h2 h3 h4 h5 h6 h7 h8 h9, TB cy h2 a1 a2 a3 v1, SU cy a2 a4 v2, HI h4 r1 vh, SL h5 d1 v7, TB cy d1 d2 d3 d4 v8, SU cy d3 d5 v9, SL h6 e1 v10, TB cy e1 e2 e3 e4 v11, SU cy e3 e5 v12, AL cy 1 o0 vo] (some (.int q.1)) [FP h0 h1 h2 h3 h4 h5 h6 h7 h8 h9, TB cy h2 a1 a2 a3 q.2.1, SU cy a2 a4 q.2.2.1, HI h4 r1 q.2.2.2.1, SL h5 d1 v7, TB cy d1 d2 d3 d4 v8, SU cy d3 d5 v9, SL h6 e1 v10, TB cy e1 e2 e3 e4 v11, SU cy e3 e5 v12, AL cy 1 o0 q.2.2.2.2] := by
  refine cmw_of (lv0 := [(0, .ref h0), (1, .int p1), (2, .ref o0)]) (by decide) (Nat.le_of_ble_eq_true rfl) rfl ?_
  intro p e s m args below meth c A X hr htab
  have X : gK p s m args meth c A D cy ad cL_restore 4 RL := X
  unfold f_L_restore at hf
  refine g_aload_n X dL_restore_0 2 rfl rfl ?_
  refine g_iconst X (0 : Int32) dL_restore_1 (by decide) ?_
  refine g_aload_n X dL_restore_2 0 rfl rfl ?_
  refine g_iload_n X dL_restore_3 1 rfl rfl ?_
  obtain ⟨q1740, hq1740, hf⟩ := obind hf
  rcases q1740 with q1740 | q1740
  · have hf := sinl hf
    refine g_xcallR (gs' := [FP h0 h1 h2 h3 h4 h5 h6 h7 h8 h9, TB cy h2 a1 a2 a3 q1740.2.1, SU cy a2 a4 q1740.2.2.1, HI h4 r1 q1740.2.2.2, SL h5 d1 v7, TB cy d1 d2 d3 d4 v8, SU cy d3 d5 v9, SL h6 e1 v10, TB cy e1 e2 e3 e4 v11, SU cy e3 e5 v12, AL cy 1 o0 vo]) (rest := [.int (0 : Int32), .ref o0]) X dL_restore_4 (c_X7_restore l D cy ad h0 h1 h2 h3 h4 h5 h6 h7 h8 h9 a1 a2 a3 a4 r1 d1 d2 d3 d4 d5 e1 e2 e3 e4 e5 v1 v2 vh v7 v8 v9 v10 v11 v12 p1 hfl hq1740) mf_X7_restore mv_X7_restore lkm_L_79 ⟨(Nat.le_of_ble_eq_true rfl), (Nat.le_of_ble_eq_true rfl), (Nat.le_of_ble_eq_true rfl), (Nat.le_of_ble_eq_true rfl)⟩ 0 0 rfl rfl rfl rfl [0, 1, 2, 3, 4, 5, 6, 7, 8, 9, 10] _ (by decide : [0, 1, 2, 3, 4, 5, 6, 7, 8, 9, 10].Perm (List.range 11)) rfl (by decide : [0, 1, 2, 3, 4, 5, 6, 7, 8, 9, 10].Perm (List.range 11)) rfl (Nat.le_of_ble_eq_true rfl) rfl ?_
    refine g_i2l X dL_restore_7 ?_
    refine g_lastore (gs' := [FP h0 h1 h2 h3 h4 h5 h6 h7 h8 h9, TB cy h2 a1 a2 a3 q1740.2.1, SU cy a2 a4 q1740.2.2.1, HI h4 r1 q1740.2.2.2, SL h5 d1 v7, TB cy d1 d2 d3 d4 v8, SU cy d3 d5 v9, SL h6 e1 v10, TB cy e1 e2 e3 e4 v11, SU cy e3 e5 v12, AL cy 1 o0 (vp_updL vo (0 : Int32).toNatClampNeg (q1740.1.toInt64))]) X dL_restore_8 10 0 rfl rfl (by decide) rfl ?_
    refine g_goto X 18 dL_restore_9 (by decide) ?_
    refine g_iconst X (0 : Int32) dL_restore_18 (by decide) ?_
    have hf := Option.some.inj hf
    subst hf
    exact g_iret X hr dL_restore_19
  · have hf := sinr hf
    by_cases c1741 : q1740.1 = 3
    · have hf := opos c1741 hf
      refine g_xcallT (gs' := [FP h0 h1 h2 h3 h4 h5 h6 h7 h8 h9, TB cy h2 a1 a2 a3 q1740.2.1, SU cy a2 a4 q1740.2.2.1, HI h4 r1 q1740.2.2.2, SL h5 d1 v7, TB cy d1 d2 d3 d4 v8, SU cy d3 d5 v9, SL h6 e1 v10, TB cy e1 e2 e3 e4 v11, SU cy e3 e5 v12, AL cy 1 o0 vo]) (rest := [.int (0 : Int32), .ref o0]) X dL_restore_4 (c_X7_restore l D cy ad h0 h1 h2 h3 h4 h5 h6 h7 h8 h9 a1 a2 a3 a4 r1 d1 d2 d3 d4 d5 e1 e2 e3 e4 e5 v1 v2 vh v7 v8 v9 v10 v11 v12 p1 hfl hq1740) mf_X7_restore mv_X7_restore lkm_L_79 ⟨(Nat.le_of_ble_eq_true rfl), (Nat.le_of_ble_eq_true rfl), (Nat.le_of_ble_eq_true rfl), (Nat.le_of_ble_eq_true rfl)⟩ 0 0 rfl rfl rfl rfl [0, 1, 2, 3, 4, 5, 6, 7, 8, 9, 10] _ (by decide : [0, 1, 2, 3, 4, 5, 6, 7, 8, 9, 10].Perm (List.range 11)) rfl (by decide : [0, 1, 2, 3, 4, 5, 6, 7, 8, 9, 10].Perm (List.range 11)) rfl (Nat.le_of_ble_eq_true rfl) rfl ?_
      rw [c1741]
      refine g_catch (k := 3) X htab [] ⟨0, 9, 12, 27⟩ [⟨0, 9, 15, 15⟩] rfl (fun z hz => absurd hz List.not_mem_nil) (by decide) (by decide) lkcl_27 (by decide) (fun q9 => ?_)
      refine g_astore_n (lv' := [(0, .ref h0), (1, .int p1), (2, .ref o0), (3, .ref q9)]) X dL_restore_12 [1, 2, 3, 0] rfl (Nat.le_of_ble_eq_true rfl) rfl ?_
      refine g_iconst X (1 : Int32) dL_restore_13 (by decide) ?_
      have hf := Option.some.inj hf
      subst hf
      exact g_iret X hr dL_restore_14
    · have hf := oneg c1741 hf
      by_cases c1742 : q1740.1 = 2
      · have hf := opos c1742 hf
        refine g_xcallT (gs' := [FP h0 h1 h2 h3 h4 h5 h6 h7 h8 h9, TB cy h2 a1 a2 a3 q1740.2.1, SU cy a2 a4 q1740.2.2.1, HI h4 r1 q1740.2.2.2, SL h5 d1 v7, TB cy d1 d2 d3 d4 v8, SU cy d3 d5 v9, SL h6 e1 v10, TB cy e1 e2 e3 e4 v11, SU cy e3 e5 v12, AL cy 1 o0 vo]) (rest := [.int (0 : Int32), .ref o0]) X dL_restore_4 (c_X7_restore l D cy ad h0 h1 h2 h3 h4 h5 h6 h7 h8 h9 a1 a2 a3 a4 r1 d1 d2 d3 d4 d5 e1 e2 e3 e4 e5 v1 v2 vh v7 v8 v9 v10 v11 v12 p1 hfl hq1740) mf_X7_restore mv_X7_restore lkm_L_79 ⟨(Nat.le_of_ble_eq_true rfl), (Nat.le_of_ble_eq_true rfl), (Nat.le_of_ble_eq_true rfl), (Nat.le_of_ble_eq_true rfl)⟩ 0 0 rfl rfl rfl rfl [0, 1, 2, 3, 4, 5, 6, 7, 8, 9, 10] _ (by decide : [0, 1, 2, 3, 4, 5, 6, 7, 8, 9, 10].Perm (List.range 11)) rfl (by decide : [0, 1, 2, 3, 4, 5, 6, 7, 8, 9, 10].Perm (List.range 11)) rfl (Nat.le_of_ble_eq_true rfl) rfl ?_
        rw [c1742]
        refine g_catch (k := 2) X htab [⟨0, 9, 12, 27⟩] ⟨0, 9, 15, 15⟩ [] rfl (fun z hz => by cases List.mem_singleton.mp hz; exact ⟨by decide, _, lkcl_27, by decide⟩) (by decide) (by decide) lkcl_15 (by decide) (fun q9 => ?_)
        refine g_astore_n (lv' := [(0, .ref h0), (1, .int p1), (2, .ref o0), (3, .ref q9)]) X dL_restore_15 [1, 2, 3, 0] rfl (Nat.le_of_ble_eq_true rfl) rfl ?_
        refine g_iconst X (2 : Int32) dL_restore_16 (by decide) ?_
        have hf := Option.some.inj hf
        subst hf
        exact g_iret X hr dL_restore_17
      · have hf := oneg c1742 hf
        cases hf
