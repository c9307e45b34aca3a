/-! ===== the law's own calls: one wrapper each; all by their number ===== -/
section GOB
variable {p : Program} {l : Launch} {e : Env} {R : Room} {s : State} {m : MethodId} {args : Array Value} {below : List Frame} {meth : Method} {c : Code} {cells slots : Nat} {Q : State → Prop} {A : Nat → Prop} {D : va_G} {cy : Nat → ClassId} {ad : (Nat → Nat) × (Nat → Nat)} {cc : ByteArray} {nL : Nat} {own : String} {pc : Nat} {lv : List (Nat × Value)} {st rest : List Value} {gs : List va_W}
theorem g_cs {c' s' : Nat} (h1 : cells = c') (h2 : slots = s') (K : GW p l e R s m args below meth c A D nL c' s' Q pc lv st gs) : GW p l e R s m args below meth c A D nL cells slots Q pc lv st gs := by
  subst h1
  subst h2
  exact K
theorem g_ineg (X : gK p s m args meth c A D cy ad cc nL own) {x : Int32} (d : decode cc pc = .ok (.ineg, 1)) (K : GW p l e R s m args below meth c A D nL cells slots Q (pc + 1) lv (.int (-x) :: st) gs) : GW p l e R s m args below meth c A D nL cells slots Q pc lv (.int x :: st) gs := fun H locs ls hP hD hS hl => lv_ineg X.1 X.2.1 d (K H locs ls hP hD hS hl)
theorem g_lshr (X : gK p s m args meth c A D cy ad cc nL own) {x : Int64} {y : Int32} (d : decode cc pc = .ok (.lshr, 1)) (K : GW p l e R s m args below meth c A D nL cells slots Q (pc + 1) lv (.long (x >>> (y.toInt64 &&& 63)) :: st) gs) : GW p l e R s m args below meth c A D nL cells slots Q pc lv (.int y :: .long x :: st) gs := fun H locs ls hP hD hS hl => lv_lshr X.1 X.2.1 d rfl (K H locs ls hP hD hS hl)
/-- groups that are not wanted any more -/
theorem g_drop {gs' gr : List va_W} (h : gs = gs' ++ gr) (K : GW p l e R s m args below meth c A D nL cells slots Q pc lv st gs') : GW p l e R s m args below meth c A D nL cells slots Q pc lv st gs := fun H locs ls hP hD hS hl => by
  subst h
  rw [List.flatten_append] at hP hD
  refine K H locs ls (fun k q hk => hP k q ?_) ⟨fun i j x y hi hj => hD.1 i j x y ?_ ?_, fun k q hk => hD.2 k q ?_⟩ hS hl
  all_goals
    first
      | exact (by rw [List.getElem?_append_left (List.getElem?_eq_some_iff.mp hk).1]; exact hk)
      | exact (by rw [List.getElem?_append_left (List.getElem?_eq_some_iff.mp hi).1]; exact hi)
      | exact (by rw [List.getElem?_append_left (List.getElem?_eq_some_iff.mp hj).1]; exact hj)
end GOB
abbrev rmL_tryAppend : Room := ({ frames := 7, cells := 1, slots := 6, locals := 111 } : Room)
def f_L_tryAppend (v0 : TXv) (p1 : Int32) : Option (Int32 × TXv) :=
  (f_X7_append v0 p1).bind (Sum.elim (fun q832 => some (q832.1, q832.2)) (fun q832 => if q832.1 = 1 then some ((-9999002 : Int32), q832.2) else if q832.1 = 2 then some ((-9999003 : Int32), q832.2) else none))
set_option maxRecDepth 100000 in
set_option maxHeartbeats 4000000 in
theorem c_L_tryAppend (l : Launch) (D : va_G) (cy : Nat → ClassId) (ad : (Nat → Nat) × (Nat → Nat)) (h0 : Nat) (h1 : Nat) (h2 : Nat) (h3 : Nat) (h4 : Nat) (h5 : Nat) (h6 : Nat) (h7 : Nat) (h8 : Nat) (h9 : Nat) (t1 : Nat) (v0 : TXv) (p1 : Int32) (hfl : l.stackTraces = false) {q : Int32 × TXv} (hf : f_L_tryAppend v0 p1 = some q) : CMW l yL_tryAppend cL_tryAppend 3 (some .int) [(0, 5, 6, 20), (0, 5, 10, 31)] rmL_tryAppend D cy ad [.ref h0, .int p1] [FP h0 h1 h2 h3 h4 h5 h6 h7 h8 h9, TX cy h1 t1 v0] (some (.int q.1)) [FP h0 h1 h2 h3 h4 h5 h6 h7 h8 h9, TX cy h1 t1 q.2] := by
  refine cmw_of (lv0 := [(0, .ref h0), (1, .int p1)]) (by decide) (Nat.le_of_ble_eq_true rfl) rfl ?_
  intro p e s m args below meth c A X hr htab
  have X : gK p s m args meth c A D cy ad cL_tryAppend 3 RL := X
  unfold f_L_tryAppend at hf
  refine g_aload_n X dL_tryAppend_0 0 rfl rfl ?_
  refine g_iload_n X dL_tryAppend_1 1 rfl rfl ?_
  obtain ⟨q832, hq832, hf⟩ := obind hf
  rcases q832 with q832 | q832
  · have hf := sinl hf
    refine g_xcallR (gs' := [FP h0 h1 h2 h3 h4 h5 h6 h7 h8 h9, TX cy h1 t1 q832.2]) (rest := []) X dL_tryAppend_2 (c_X7_append l D cy ad h0 h1 h2 h3 h4 h5 h6 h7 h8 h9 t1 v0 p1 hfl hq832) mf_X7_append mv_X7_append lkm_L_27 ⟨(Nat.le_of_ble_eq_true rfl), (Nat.le_of_ble_eq_true rfl), (Nat.le_of_ble_eq_true rfl), (Nat.le_of_ble_eq_true rfl)⟩ 0 0 rfl rfl rfl rfl [0, 1] _ (by decide : [0, 1].Perm (List.range 2)) rfl (by decide : [0, 1].Perm (List.range 2)) rfl (Nat.le_of_ble_eq_true rfl) rfl ?_
    have hf := Option.some.inj hf
    subst hf
    exact g_iret X hr dL_tryAppend_5
  · have hf := sinr hf
    by_cases c833 : q832.1 = 1
    · have hf := opos c833 hf
      refine g_xcallT (gs' := [FP h0 h1 h2 h3 h4 h5 h6 h7 h8 h9, TX cy h1 t1 q832.2]) (rest := []) X dL_tryAppend_2 (c_X7_append l D cy ad h0 h1 h2 h3 h4 h5 h6 h7 h8 h9 t1 v0 p1 hfl hq832) mf_X7_append mv_X7_append lkm_L_27 ⟨(Nat.le_of_ble_eq_true rfl), (Nat.le_of_ble_eq_true rfl), (Nat.le_of_ble_eq_true rfl), (Nat.le_of_ble_eq_true rfl)⟩ 0 0 rfl rfl rfl rfl [0, 1] _ (by decide : [0, 1].Perm (List.range 2)) rfl (by decide : [0, 1].Perm (List.range 2)) rfl (Nat.le_of_ble_eq_true rfl) rfl ?_
      rw [c833]
      refine g_catch (k := 1) X htab [] ⟨0, 5, 6, 20⟩ [⟨0, 5, 10, 31⟩] rfl (fun z hz => absurd hz List.not_mem_nil) (by decide) (by decide) lkcl_20 (by decide) (fun q9 => ?_)
      refine g_astore_n (lv' := [(0, .ref h0), (1, .int p1), (2, .ref q9)]) X dL_tryAppend_6 [1, 2, 0] rfl (Nat.le_of_ble_eq_true rfl) rfl ?_
      refine g_ldc X lkc_L_22 dL_tryAppend_7 ?_
      have hf := Option.some.inj hf
      subst hf
      exact g_iret X hr dL_tryAppend_9
    · have hf := oneg c833 hf
      by_cases c834 : q832.1 = 2
      · have hf := opos c834 hf
        refine g_xcallT (gs' := [FP h0 h1 h2 h3 h4 h5 h6 h7 h8 h9, TX cy h1 t1 q832.2]) (rest := []) X dL_tryAppend_2 (c_X7_append l D cy ad h0 h1 h2 h3 h4 h5 h6 h7 h8 h9 t1 v0 p1 hfl hq832) mf_X7_append mv_X7_append lkm_L_27 ⟨(Nat.le_of_ble_eq_true rfl), (Nat.le_of_ble_eq_true rfl), (Nat.le_of_ble_eq_true rfl), (Nat.le_of_ble_eq_true rfl)⟩ 0 0 rfl rfl rfl rfl [0, 1] _ (by decide : [0, 1].Perm (List.range 2)) rfl (by decide : [0, 1].Perm (List.range 2)) rfl (Nat.le_of_ble_eq_true rfl) rfl ?_
        rw [c834]
        refine g_catch (k := 2) X htab [⟨0, 5, 6, 20⟩] ⟨0, 5, 10, 31⟩ [] rfl (fun z hz => by cases List.mem_singleton.mp hz; exact ⟨by decide, _, lkcl_20, by decide⟩) (by decide) (by decide) lkcl_31 (by decide) (fun q9 => ?_)
        refine g_astore_n (lv' := [(0, .ref h0), (1, .int p1), (2, .ref q9)]) X dL_tryAppend_10 [1, 2, 0] rfl (Nat.le_of_ble_eq_true rfl) rfl ?_
        refine g_ldc X lkc_L_33 dL_tryAppend_11 ?_
        have hf := Option.some.inj hf
        subst hf
        exact g_iret X hr dL_tryAppend_13
      · have hf := oneg c834 hf
        cases hf
abbrev rmL_tryAbout : Room := ({ frames := 7, cells := 1, slots := 6, locals := 111 } : Room)
def f_L_tryAbout (v1 : TBv) (v2 : Fn) (p1 : Int32) : Option (Int32) :=
  (f_X7_about v1 v2 p1).bind (Sum.elim (fun q837 => some q837) (fun q837 => if q837 = 1 then some (-9999002 : Int32) else none))
set_option maxRecDepth 100000 in
set_option maxHeartbeats 4000000 in
theorem c_L_tryAbout (l : Launch) (D : va_G) (cy : Nat → ClassId) (ad : (Nat → Nat) × (Nat → Nat)) (h0 : Nat) (h1 : Nat) (h2 : Nat) (h3 : Nat) (h4 : Nat) (h5 : Nat) (h6 : Nat) (h7 : Nat) (h8 : Nat) (h9 : Nat) (a1 : Nat) (a2 : Nat) (a3 : Nat) (a4 : Nat) (v1 : TBv) (v2 : Fn) (p1 : Int32) (hfl : l.stackTraces = false) {q : Int32} (hf : f_L_tryAbout v1 v2 p1 = some q) : CMW l yL_tryAbout cL_tryAbout 3 (some .int) [(0, 5, 6, 20)] rmL_tryAbout D cy ad [.ref h0, .int p1] [FP h0 h1 h2 h3 h4 h5 h6 h7 h8 h9, TB cy h2 a1 a2 a3 v1, SU cy a2 a4 v2] (some (.int q)) [FP h0 h1 h2 h3 h4 h5 h6 h7 h8 h9, TB cy h2 a1 a2 a3 v1, SU cy a2 a4 v2] := by
  refine cmw_of (lv0 := [(0, .ref h0), (1, .int p1)]) (by decide) (Nat.le_of_ble_eq_true rfl) rfl ?_
  intro p e s m args below meth c A X hr htab
  have X : gK p s m args meth c A D cy ad cL_tryAbout 3 RL := X
  unfold f_L_tryAbout at hf
  refine g_aload_n X dL_tryAbout_0 0 rfl rfl ?_
  refine g_iload_n X dL_tryAbout_1 1 rfl rfl ?_
  obtain ⟨q837, hq837, hf⟩ := obind hf
  rcases q837 with q837 | q837
  · have hf := sinl hf
    refine g_xcallR (gs' := [FP h0 h1 h2 h3 h4 h5 h6 h7 h8 h9, TB cy h2 a1 a2 a3 v1, SU cy a2 a4 v2]) (rest := []) X dL_tryAbout_2 (c_X7_about l D cy ad h0 h1 h2 h3 h4 h5 h6 h7 h8 h9 a1 a2 a3 a4 v1 v2 p1 hfl hq837) mf_X7_about mv_X7_about lkm_L_38 ⟨(Nat.le_of_ble_eq_true rfl), (Nat.le_of_ble_eq_true rfl), (Nat.le_of_ble_eq_true rfl), (Nat.le_of_ble_eq_true rfl)⟩ 0 0 rfl rfl rfl rfl [0, 1, 2] _ (by decide : [0, 1, 2].Perm (List.range 3)) rfl (by decide : [0, 1, 2].Perm (List.range 3)) rfl (Nat.le_of_ble_eq_true rfl) rfl ?_
    have hf := Option.some.inj hf
    subst hf
    exact g_iret X hr dL_tryAbout_5
  · have hf := sinr hf
    by_cases c838 : q837 = 1
    · have hf := opos c838 hf
      refine g_xcallT (gs' := [FP h0 h1 h2 h3 h4 h5 h6 h7 h8 h9, TB cy h2 a1 a2 a3 v1, SU cy a2 a4 v2]) (rest := []) X dL_tryAbout_2 (c_X7_about l D cy ad h0 h1 h2 h3 h4 h5 h6 h7 h8 h9 a1 a2 a3 a4 v1 v2 p1 hfl hq837) mf_X7_about mv_X7_about lkm_L_38 ⟨(Nat.le_of_ble_eq_true rfl), (Nat.le_of_ble_eq_true rfl), (Nat.le_of_ble_eq_true rfl), (Nat.le_of_ble_eq_true rfl)⟩ 0 0 rfl rfl rfl rfl [0, 1, 2] _ (by decide : [0, 1, 2].Perm (List.range 3)) rfl (by decide : [0, 1, 2].Perm (List.range 3)) rfl (Nat.le_of_ble_eq_true rfl) rfl ?_
      rw [c838]
      refine g_catch (k := 1) X htab [] ⟨0, 5, 6, 20⟩ [] rfl (fun z hz => absurd hz List.not_mem_nil) (by decide) (by decide) lkcl_20 (by decide) (fun q9 => ?_)
      refine g_astore_n (lv' := [(0, .ref h0), (1, .int p1), (2, .ref q9)]) X dL_tryAbout_6 [1, 2, 0] rfl (Nat.le_of_ble_eq_true rfl) rfl ?_
      refine g_ldc X lkc_L_22 dL_tryAbout_7 ?_
      have hf := Option.some.inj hf
      subst hf
      exact g_iret X hr dL_tryAbout_9
    · have hf := oneg c838 hf
      cases hf
abbrev rmL_tryCoin : Room := ({ frames := 7, cells := 1, slots := 6, locals := 111 } : Room)
def f_L_tryCoin (v1 : TBv) (v2 : Fn) (p1 : Int32) : Option (Int32) :=
  (f_X7_coin v1 v2 p1).bind (Sum.elim (fun q841 => some q841) (fun q841 => if q841 = 3 then some (-9999001 : Int32) else none))
set_option maxRecDepth 100000 in
set_option maxHeartbeats 4000000 in
theorem c_L_tryCoin (l : Launch) (D : va_G) (cy : Nat → ClassId) (ad : (Nat → Nat) × (Nat → Nat)) (h0 : Nat) (h1 : Nat) (h2 : Nat) (h3 : Nat) (h4 : Nat) (h5 : Nat) (h6 : Nat) (h7 : Nat) (h8 : Nat) (h9 : Nat) (a1 : Nat) (a2 : Nat) (a3 : Nat) (a4 : Nat) (v1 : TBv) (v2 : Fn) (p1 : Int32) (hfl : l.stackTraces = false) {q : Int32} (hf : f_L_tryCoin v1 v2 p1 = some q) : CMW l yL_tryCoin cL_tryCoin 3 (some .int) [(0, 5, 6, 13)] rmL_tryCoin D cy ad [.ref h0, .int p1] [FP h0 h1 h2 h3 h4 h5 h6 h7 h8 h9, TB cy h2 a1 a2 a3 v1, SU cy a2 a4 v2] (some (.int q)) [FP h0 h1 h2 h3 h4 h5 h6 h7 h8 h9, TB cy h2 a1 a2 a3 v1, SU cy a2 a4 v2] := by
  refine cmw_of (lv0 := [(0, .ref h0), (1, .int p1)]) (by decide) (Nat.le_of_ble_eq_true rfl) rfl ?_
  intro p e s m args below meth c A X hr htab
  have X : gK p s m args meth c A D cy ad cL_tryCoin 3 RL := X
  unfold f_L_tryCoin at hf
  refine g_aload_n X dL_tryCoin_0 0 rfl rfl ?_
  refine g_iload_n X dL_tryCoin_1 1 rfl rfl ?_
  obtain ⟨q841, hq841, hf⟩ := obind hf
  rcases q841 with q841 | q841
  · have hf := sinl hf
    refine g_xcallR (gs' := [FP h0 h1 h2 h3 h4 h5 h6 h7 h8 h9, TB cy h2 a1 a2 a3 v1, SU cy a2 a4 v2]) (rest := []) X dL_tryCoin_2 (c_X7_coin l D cy ad h0 h1 h2 h3 h4 h5 h6 h7 h8 h9 a1 a2 a3 a4 v1 v2 p1 hfl hq841) mf_X7_coin mv_X7_coin lkm_L_41 ⟨(Nat.le_of_ble_eq_true rfl), (Nat.le_of_ble_eq_true rfl), (Nat.le_of_ble_eq_true rfl), (Nat.le_of_ble_eq_true rfl)⟩ 0 0 rfl rfl rfl rfl [0, 1, 2] _ (by decide : [0, 1, 2].Perm (List.range 3)) rfl (by decide : [0, 1, 2].Perm (List.range 3)) rfl (Nat.le_of_ble_eq_true rfl) rfl ?_
    have hf := Option.some.inj hf
    subst hf
    exact g_iret X hr dL_tryCoin_5
  · have hf := sinr hf
    by_cases c842 : q841 = 3
    · have hf := opos c842 hf
      refine g_xcallT (gs' := [FP h0 h1 h2 h3 h4 h5 h6 h7 h8 h9, TB cy h2 a1 a2 a3 v1, SU cy a2 a4 v2]) (rest := []) X dL_tryCoin_2 (c_X7_coin l D cy ad h0 h1 h2 h3 h4 h5 h6 h7 h8 h9 a1 a2 a3 a4 v1 v2 p1 hfl hq841) mf_X7_coin mv_X7_coin lkm_L_41 ⟨(Nat.le_of_ble_eq_true rfl), (Nat.le_of_ble_eq_true rfl), (Nat.le_of_ble_eq_true rfl), (Nat.le_of_ble_eq_true rfl)⟩ 0 0 rfl rfl rfl rfl [0, 1, 2] _ (by decide : [0, 1, 2].Perm (List.range 3)) rfl (by decide : [0, 1, 2].Perm (List.range 3)) rfl (Nat.le_of_ble_eq_true rfl) rfl ?_
      rw [c842]
      refine g_catch (k := 3) X htab [] ⟨0, 5, 6, 13⟩ [] rfl (fun z hz => absurd hz List.not_mem_nil) (by decide) (by decide) lkcl_13 (by decide) (fun q9 => ?_)
      refine g_astore_n (lv' := [(0, .ref h0), (1, .int p1), (2, .ref q9)]) X dL_tryCoin_6 [1, 2, 0] rfl (Nat.le_of_ble_eq_true rfl) rfl ?_
      refine g_ldc X lkc_L_15 dL_tryCoin_7 ?_
      have hf := Option.some.inj hf
      subst hf
      exact g_iret X hr dL_tryCoin_9
    · have hf := oneg c842 hf
      cases hf
abbrev rmL_tryIs : Room := ({ frames := 7, cells := 1, slots := 6, locals := 111 } : Room)
def f_L_tryIs (v1 : TBv) (v2 : Fn) (p1 : Int32) : Option (Int32) :=
  (f_X7_isLeft v1 v2 p1).bind (Sum.elim (fun q845 => some q845) (fun q845 => if q845 = 3 then some (-9999001 : Int32) else none))
set_option maxRecDepth 100000 in
set_option maxHeartbeats 4000000 in
theorem c_L_tryIs (l : Launch) (D : va_G) (cy : Nat → ClassId) (ad : (Nat → Nat) × (Nat → Nat)) (h0 : Nat) (h1 : Nat) (h2 : Nat) (h3 : Nat) (h4 : Nat) (h5 : Nat) (h6 : Nat) (h7 : Nat) (h8 : Nat) (h9 : Nat) (a1 : Nat) (a2 : Nat) (a3 : Nat) (a4 : Nat) (v1 : TBv) (v2 : Fn) (p1 : Int32) (hfl : l.stackTraces = false) {q : Int32} (hf : f_L_tryIs v1 v2 p1 = some q) : CMW l yL_tryIs cL_tryIs 3 (some .int) [(0, 5, 6, 13)] rmL_tryIs D cy ad [.ref h0, .int p1] [FP h0 h1 h2 h3 h4 h5 h6 h7 h8 h9, TB cy h2 a1 a2 a3 v1, SU cy a2 a4 v2] (some (.int q)) [FP h0 h1 h2 h3 h4 h5 h6 h7 h8 h9, TB cy h2 a1 a2 a3 v1, SU cy a2 a4 v2] := by
  refine cmw_of (lv0 := [(0, .ref h0), (1, .int p1)]) (by decide) (Nat.le_of_ble_eq_true rfl) rfl ?_
  intro p e s m args below meth c A X hr htab
  have X : gK p s m args meth c A D cy ad cL_tryIs 3 RL := X
  unfold f_L_tryIs at hf
  refine g_aload_n X dL_tryIs_0 0 rfl rfl ?_
  refine g_iload_n X dL_tryIs_1 1 rfl rfl ?_
  obtain ⟨q845, hq845, hf⟩ := obind hf
  rcases q845 with q845 | q845
  · have hf := sinl hf
    refine g_xcallR (gs' := [FP h0 h1 h2 h3 h4 h5 h6 h7 h8 h9, TB cy h2 a1 a2 a3 v1, SU cy a2 a4 v2]) (rest := []) X dL_tryIs_2 (c_X7_isLeft l D cy ad h0 h1 h2 h3 h4 h5 h6 h7 h8 h9 a1 a2 a3 a4 v1 v2 p1 hfl hq845) mf_X7_isLeft mv_X7_isLeft lkm_L_44 ⟨(Nat.le_of_ble_eq_true rfl), (Nat.le_of_ble_eq_true rfl), (Nat.le_of_ble_eq_true rfl), (Nat.le_of_ble_eq_true rfl)⟩ 0 0 rfl rfl rfl rfl [0, 1, 2] _ (by decide : [0, 1, 2].Perm (List.range 3)) rfl (by decide : [0, 1, 2].Perm (List.range 3)) rfl (Nat.le_of_ble_eq_true rfl) rfl ?_
    have hf := Option.some.inj hf
    subst hf
    exact g_iret X hr dL_tryIs_5
  · have hf := sinr hf
    by_cases c846 : q845 = 3
    · have hf := opos c846 hf
      refine g_xcallT (gs' := [FP h0 h1 h2 h3 h4 h5 h6 h7 h8 h9, TB cy h2 a1 a2 a3 v1, SU cy a2 a4 v2]) (rest := []) X dL_tryIs_2 (c_X7_isLeft l D cy ad h0 h1 h2 h3 h4 h5 h6 h7 h8 h9 a1 a2 a3 a4 v1 v2 p1 hfl hq845) mf_X7_isLeft mv_X7_isLeft lkm_L_44 ⟨(Nat.le_of_ble_eq_true rfl), (Nat.le_of_ble_eq_true rfl), (Nat.le_of_ble_eq_true rfl), (Nat.le_of_ble_eq_true rfl)⟩ 0 0 rfl rfl rfl rfl [0, 1, 2] _ (by decide : [0, 1, 2].Perm (List.range 3)) rfl (by decide : [0, 1, 2].Perm (List.range 3)) rfl (Nat.le_of_ble_eq_true rfl) rfl ?_
      rw [c846]
      refine g_catch (k := 3) X htab [] ⟨0, 5, 6, 13⟩ [] rfl (fun z hz => absurd hz List.not_mem_nil) (by decide) (by decide) lkcl_13 (by decide) (fun q9 => ?_)
      refine g_astore_n (lv' := [(0, .ref h0), (1, .int p1), (2, .ref q9)]) X dL_tryIs_6 [1, 2, 0] rfl (Nat.le_of_ble_eq_true rfl) rfl ?_
      refine g_ldc X lkc_L_15 dL_tryIs_7 ?_
      have hf := Option.some.inj hf
      subst hf
      exact g_iret X hr dL_tryIs_9
    · have hf := oneg c846 hf
      cases hf
abbrev rmL_tryTold : Room := ({ frames := 7, cells := 1, slots := 6, locals := 112 } : Room)
def f_L_tryTold (v1 : TBv) (p1 : Int32) (p2 : Int32) : Option (Int32) :=
  (f_X7_weighing v1 p1 p2).bind (Sum.elim (fun q849 => some q849) (fun q849 => if q849 = 3 then some (-9999001 : Int32) else if q849 = 1 then some (-9999002 : Int32) else none))
set_option maxRecDepth 100000 in
set_option maxHeartbeats 4000000 in
theorem c_L_tryTold (l : Launch) (D : va_G) (cy : Nat → ClassId) (ad : (Nat → Nat) × (Nat → Nat)) (h0 : Nat) (h1 : Nat) (h2 : Nat) (h3 : Nat) (h4 : Nat) (h5 : Nat) (h6 : Nat) (h7 : Nat) (h8 : Nat) (h9 : Nat) (a1 : Nat) (a2 : Nat) (a3 : Nat) (v1 : TBv) (p1 : Int32) (p2 : Int32) (hfl : l.stackTraces = false) {q : Int32} (hf : f_L_tryTold v1 p1 p2 = some q) : CMW l yL_tryTold cL_tryTold 4 (some .int) [(0, 6, 7, 13), (0, 6, 11, 20)] rmL_tryTold D cy ad [.ref h0, .int p1, .int p2] [FP h0 h1 h2 h3 h4 h5 h6 h7 h8 h9, TB cy h2 a1 a2 a3 v1] (some (.int q)) [FP h0 h1 h2 h3 h4 h5 h6 h7 h8 h9, TB cy h2 a1 a2 a3 v1] := by
  refine cmw_of (lv0 := [(0, .ref h0), (1, .int p1), (2, .int p2)]) (by decide) (Nat.le_of_ble_eq_true rfl) rfl ?_
  intro p e s m args below meth c A X hr htab
  have X : gK p s m args meth c A D cy ad cL_tryTold 4 RL := X
  unfold f_L_tryTold at hf
  refine g_aload_n X dL_tryTold_0 0 rfl rfl ?_
  refine g_iload_n X dL_tryTold_1 1 rfl rfl ?_
  refine g_iload_n X dL_tryTold_2 2 rfl rfl ?_
  obtain ⟨q849, hq849, hf⟩ := obind hf
  rcases q849 with q849 | q849
  · have hf := sinl hf
    refine g_xcallR (gs' := [FP h0 h1 h2 h3 h4 h5 h6 h7 h8 h9, TB cy h2 a1 a2 a3 v1]) (rest := []) X dL_tryTold_3 (c_X7_weighing l D cy ad h0 h1 h2 h3 h4 h5 h6 h7 h8 h9 a1 a2 a3 v1 p1 p2 hfl hq849) mf_X7_weighing mv_X7_weighing lkm_L_47 ⟨(Nat.le_of_ble_eq_true rfl), (Nat.le_of_ble_eq_true rfl), (Nat.le_of_ble_eq_true rfl), (Nat.le_of_ble_eq_true rfl)⟩ 0 0 rfl rfl rfl rfl [0, 1] _ (by decide : [0, 1].Perm (List.range 2)) rfl (by decide : [0, 1].Perm (List.range 2)) rfl (Nat.le_of_ble_eq_true rfl) rfl ?_
    have hf := Option.some.inj hf
    subst hf
    exact g_iret X hr dL_tryTold_6
  · have hf := sinr hf
    by_cases c850 : q849 = 3
    · have hf := opos c850 hf
      refine g_xcallT (gs' := [FP h0 h1 h2 h3 h4 h5 h6 h7 h8 h9, TB cy h2 a1 a2 a3 v1]) (rest := []) X dL_tryTold_3 (c_X7_weighing l D cy ad h0 h1 h2 h3 h4 h5 h6 h7 h8 h9 a1 a2 a3 v1 p1 p2 hfl hq849) mf_X7_weighing mv_X7_weighing lkm_L_47 ⟨(Nat.le_of_ble_eq_true rfl), (Nat.le_of_ble_eq_true rfl), (Nat.le_of_ble_eq_true rfl), (Nat.le_of_ble_eq_true rfl)⟩ 0 0 rfl rfl rfl rfl [0, 1] _ (by decide : [0, 1].Perm (List.range 2)) rfl (by decide : [0, 1].Perm (List.range 2)) rfl (Nat.le_of_ble_eq_true rfl) rfl ?_
      rw [c850]
      refine g_catch (k := 3) X htab [] ⟨0, 6, 7, 13⟩ [⟨0, 6, 11, 20⟩] rfl (fun z hz => absurd hz List.not_mem_nil) (by decide) (by decide) lkcl_13 (by decide) (fun q9 => ?_)
      refine g_astore_n (lv' := [(0, .ref h0), (1, .int p1), (2, .int p2), (3, .ref q9)]) X dL_tryTold_7 [1, 2, 3, 0] rfl (Nat.le_of_ble_eq_true rfl) rfl ?_
      refine g_ldc X lkc_L_15 dL_tryTold_8 ?_
      have hf := Option.some.inj hf
      subst hf
      exact g_iret X hr dL_tryTold_10
    · have hf := oneg c850 hf
      by_cases c851 : q849 = 1
      · have hf := opos c851 hf
        refine g_xcallT (gs' := [FP h0 h1 h2 h3 h4 h5 h6 h7 h8 h9, TB cy h2 a1 a2 a3 v1]) (rest := []) X dL_tryTold_3 (c_X7_weighing l D cy ad h0 h1 h2 h3 h4 h5 h6 h7 h8 h9 a1 a2 a3 v1 p1 p2 hfl hq849) mf_X7_weighing mv_X7_weighing lkm_L_47 ⟨(Nat.le_of_ble_eq_true rfl), (Nat.le_of_ble_eq_true rfl), (Nat.le_of_ble_eq_true rfl), (Nat.le_of_ble_eq_true rfl)⟩ 0 0 rfl rfl rfl rfl [0, 1] _ (by decide : [0, 1].Perm (List.range 2)) rfl (by decide : [0, 1].Perm (List.range 2)) rfl (Nat.le_of_ble_eq_true rfl) rfl ?_
        rw [c851]
        refine g_catch (k := 1) X htab [⟨0, 6, 7, 13⟩] ⟨0, 6, 11, 20⟩ [] rfl (fun z hz => by cases List.mem_singleton.mp hz; exact ⟨by decide, _, lkcl_13, by decide⟩) (by decide) (by decide) lkcl_20 (by decide) (fun q9 => ?_)
        refine g_astore_n (lv' := [(0, .ref h0), (1, .int p1), (2, .int p2), (3, .ref q9)]) X dL_tryTold_11 [1, 2, 3, 0] rfl (Nat.le_of_ble_eq_true rfl) rfl ?_
        refine g_ldc X lkc_L_22 dL_tryTold_12 ?_
        have hf := Option.some.inj hf
        subst hf
        exact g_iret X hr dL_tryTold_14
      · have hf := oneg c851 hf
        cases hf
abbrev rmL_tryHide : Room := ({ frames := 7, cells := 1, slots := 6, locals := 112 } : Room)
def f_L_tryHide (v1 : TBv) (v2 : Fn) (vh : HIv) (vr : HRv) (p1 : Int32) (p2 : Int32) : Option (Int32 × TBv × Fn × HIv × HRv) :=
  (f_X7_hide v1 v2 vh vr p1 p2).bind (Sum.elim (fun q854 => some (q854.1, q854.2.1, q854.2.2.1, q854.2.2.2.1, q854.2.2.2.2)) (fun q854 => if q854.1 = 3 then some ((-9999001 : Int32), q854.2.1, q854.2.2.1, q854.2.2.2.1, q854.2.2.2.2) else if q854.1 = 1 then some ((-9999002 : Int32), q854.2.1, q854.2.2.1, q854.2.2.2.1, q854.2.2.2.2) else none))
set_option maxRecDepth 100000 in
set_option maxHeartbeats 4000000 in
theorem c_L_tryHide (l : Launch) (D : va_G) (cy : Nat → ClassId) (ad : (Nat → Nat) × (Nat → Nat)) (h0 : Nat) (h1 : Nat) (h2 : Nat) (h3 : Nat) (h4 : Nat) (h5 : Nat) (h6 : Nat) (h7 : Nat) (h8 : Nat) (h9 : Nat) (a1 : Nat) (a2 : Nat) (a3 : Nat) (a4 : Nat) (r1 : Nat) (ta : TAd) (v1 : TBv) (v2 : Fn) (vh : HIv) (vr : HRv) (p1 : Int32) (p2 : Int32) (hfl : l.stackTraces = false) {q : Int32 × TBv × Fn × HIv × HRv} (hf : f_L_tryHide v1 v2 vh vr p1 p2 = some q) : CMW l yL_tryHide cL_tryHide 4 (some .int) [(0, 6, 7, 13), (0, 6, 11, 20)] rmL_tryHide D cy ad [.ref h0, .int p1, .int p2] [FP h0 h1 h2 h3 h4 h5 h6 h7 h8 h9, TB cy h2 a1 a2 a3 v1, SU cy a2 a4 v2, HI h4 r1 vh, HR cy r1 ta vr] (some (.int q.1)) [FP h0 h1 h2 h3 h4 h5 h6 h7 h8 h9, TB cy h2 a1 a2 a3 q.2.1, SU cy a2 a4 q.2.2.1, HI h4 r1 q.2.2.2.1, HR cy r1 ta q.2.2.2.2] := by
  refine cmw_of (lv0 := [(0, .ref h0), (1, .int p1), (2, .int p2)]) (by decide) (Nat.le_of_ble_eq_true rfl) rfl ?_
  intro p e s m args below meth c A X hr htab
  have X : gK p s m args meth c A D cy ad cL_tryHide 4 RL := X
  unfold f_L_tryHide at hf
  refine g_aload_n X dL_tryHide_0 0 rfl rfl ?_
  refine g_iload_n X dL_tryHide_1 1 rfl rfl ?_
  refine g_iload_n X dL_tryHide_2 2 rfl rfl ?_
  obtain ⟨q854, hq854, hf⟩ := obind hf
  rcases q854 with q854 | q854
  · have hf := sinl hf
    refine g_xcallR (gs' := [FP h0 h1 h2 h3 h4 h5 h6 h7 h8 h9, TB cy h2 a1 a2 a3 q854.2.1, SU cy a2 a4 q854.2.2.1, HI h4 r1 q854.2.2.2.1, HR cy r1 ta q854.2.2.2.2]) (rest := []) X dL_tryHide_3 (c_X7_hide l D cy ad h0 h1 h2 h3 h4 h5 h6 h7 h8 h9 a1 a2 a3 a4 r1 ta v1 v2 vh vr p1 p2 hfl hq854) mf_X7_hide mv_X7_hide lkm_L_51 ⟨(Nat.le_of_ble_eq_true rfl), (Nat.le_of_ble_eq_true rfl), (Nat.le_of_ble_eq_true rfl), (Nat.le_of_ble_eq_true rfl)⟩ 0 0 rfl rfl rfl rfl [0, 1, 2, 3, 4] _ (by decide : [0, 1, 2, 3, 4].Perm (List.range 5)) rfl (by decide : [0, 1, 2, 3, 4].Perm (List.range 5)) rfl (Nat.le_of_ble_eq_true rfl) rfl ?_
    have hf := Option.some.inj hf
    subst hf
    exact g_iret X hr dL_tryHide_6
  · have hf := sinr hf
    by_cases c855 : q854.1 = 3
    · have hf := opos c855 hf
      refine g_xcallT (gs' := [FP h0 h1 h2 h3 h4 h5 h6 h7 h8 h9, TB cy h2 a1 a2 a3 q854.2.1, SU cy a2 a4 q854.2.2.1, HI h4 r1 q854.2.2.2.1, HR cy r1 ta q854.2.2.2.2]) (rest := []) X dL_tryHide_3 (c_X7_hide l D cy ad h0 h1 h2 h3 h4 h5 h6 h7 h8 h9 a1 a2 a3 a4 r1 ta v1 v2 vh vr p1 p2 hfl hq854) mf_X7_hide mv_X7_hide lkm_L_51 ⟨(Nat.le_of_ble_eq_true rfl), (Nat.le_of_ble_eq_true rfl), (Nat.le_of_ble_eq_true rfl), (Nat.le_of_ble_eq_true rfl)⟩ 0 0 rfl rfl rfl rfl [0, 1, 2, 3, 4] _ (by decide : [0, 1, 2, 3, 4].Perm (List.range 5)) rfl (by decide : [0, 1, 2, 3, 4].Perm (List.range 5)) rfl (Nat.le_of_ble_eq_true rfl) rfl ?_
      rw [c855]
      refine g_catch (k := 3) X htab [] ⟨0, 6, 7, 13⟩ [⟨0, 6, 11, 20⟩] rfl (fun z hz => absurd hz List.not_mem_nil) (by decide) (by decide) lkcl_13 (by decide) (fun q9 => ?_)
      refine g_astore_n (lv' := [(0, .ref h0), (1, .int p1), (2, .int p2), (3, .ref q9)]) X dL_tryHide_7 [1, 2, 3, 0] rfl (Nat.le_of_ble_eq_true rfl) rfl ?_
      refine g_ldc X lkc_L_15 dL_tryHide_8 ?_
      have hf := Option.some.inj hf
      subst hf
      exact g_iret X hr dL_tryHide_10
    · have hf := oneg c855 hf
      by_cases c856 : q854.1 = 1
      · have hf := opos c856 hf
        refine g_xcallT (gs' := [FP h0 h1 h2 h3 h4 h5 h6 h7 h8 h9, TB cy h2 a1 a2 a3 q854.2.1, SU cy a2 a4 q854.2.2.1, HI h4 r1 q854.2.2.2.1, HR cy r1 ta q854.2.2.2.2]) (rest := []) X dL_tryHide_3 (c_X7_hide l D cy ad h0 h1 h2 h3 h4 h5 h6 h7 h8 h9 a1 a2 a3 a4 r1 ta v1 v2 vh vr p1 p2 hfl hq854) mf_X7_hide mv_X7_hide lkm_L_51 ⟨(Nat.le_of_ble_eq_true rfl), (Nat.le_of_ble_eq_true rfl), (Nat.le_of_ble_eq_true rfl), (Nat.le_of_ble_eq_true rfl)⟩ 0 0 rfl rfl rfl rfl [0, 1, 2, 3, 4] _ (by decide : [0, 1, 2, 3, 4].Perm (List.range 5)) rfl (by decide : [0, 1, 2, 3, 4].Perm (List.range 5)) rfl (Nat.le_of_ble_eq_true rfl) rfl ?_
        rw [c856]
        refine g_catch (k := 1) X htab [⟨0, 6, 7, 13⟩] ⟨0, 6, 11, 20⟩ [] rfl (fun z hz => by cases List.mem_singleton.mp hz; exact ⟨by decide, _, lkcl_13, by decide⟩) (by decide) (by decide) lkcl_20 (by decide) (fun q9 => ?_)
        refine g_astore_n (lv' := [(0, .ref h0), (1, .int p1), (2, .int p2), (3, .ref q9)]) X dL_tryHide_11 [1, 2, 3, 0] rfl (Nat.le_of_ble_eq_true rfl) rfl ?_
        refine g_ldc X lkc_L_22 dL_tryHide_12 ?_
        have hf := Option.some.inj hf
        subst hf
        exact g_iret X hr dL_tryHide_14
      · have hf := oneg c856 hf
        cases hf
abbrev rmL_tryArms : Room := ({ frames := 7, cells := 1, slots := 6, locals := 112 } : Room)
def f_L_tryArms (v1 : TBv) (v2 : Fn) (vh : HIv) (vr : HRv) (p1 : Int32) (p2 : Int32) : Option (Int32 × TBv × HIv × HRv) :=
  (f_X7_arms v1 v2 vh vr p1 p2).bind (Sum.elim (fun q859 => some (q859.1, q859.2.1, q859.2.2.1, q859.2.2.2)) (fun q859 => if q859.1 = 1 then some ((-9999002 : Int32), q859.2.1, q859.2.2.1, q859.2.2.2) else none))
set_option maxRecDepth 100000 in
set_option maxHeartbeats 4000000 in
theorem c_L_tryArms (l : Launch) (D : va_G) (cy : Nat → ClassId) (ad : (Nat → Nat) × (Nat → Nat)) (h0 : Nat) (h1 : Nat) (h2 : Nat) (h3 : Nat) (h4 : Nat) (h5 : Nat) (h6 : Nat) (h7 : Nat) (h8 : Nat) (h9 : Nat) (a1 : Nat) (a2 : Nat) (a3 : Nat) (a4 : Nat) (r1 : Nat) (ta : TAd) (v1 : TBv) (v2 : Fn) (vh : HIv) (vr : HRv) (p1 : Int32) (p2 : Int32) (hfl : l.stackTraces = false) {q : Int32 × TBv × HIv × HRv} (hf : f_L_tryArms v1 v2 vh vr p1 p2 = some q) : CMW l yL_tryArms cL_tryArms 4 (some .int) [(0, 6, 7, 20)] rmL_tryArms D cy ad [.ref h0, .int p1, .int p2] [FP h0 h1 h2 h3 h4 h5 h6 h7 h8 h9, TB cy h2 a1 a2 a3 v1, SU cy a2 a4 v2, HI h4 r1 vh, HR cy r1 ta vr] (some (.int q.1)) [FP h0 h1 h2 h3 h4 h5 h6 h7 h8 h9, TB cy h2 a1 a2 a3 q.2.1, SU cy a2 a4 v2, HI h4 r1 q.2.2.1, HR cy r1 ta q.2.2.2] := by
  refine cmw_of (lv0 := [(0, .ref h0), (1, .int p1), (2, .int p2)]) (by decide) (Nat.le_of_ble_eq_true rfl) rfl ?_
  intro p e s m args below meth c A X hr htab
  have X : gK p s m args meth c A D cy ad cL_tryArms 4 RL := X
  unfold f_L_tryArms at hf
  refine g_aload_n X dL_tryArms_0 0 rfl rfl ?_
  refine g_iload_n X dL_tryArms_1 1 rfl rfl ?_
  refine g_iload_n X dL_tryArms_2 2 rfl rfl ?_
  obtain ⟨q859, hq859, hf⟩ := obind hf
  rcases q859 with q859 | q859
  · have hf := sinl hf
    refine g_xcallR (gs' := [FP h0 h1 h2 h3 h4 h5 h6 h7 h8 h9, TB cy h2 a1 a2 a3 q859.2.1, SU cy a2 a4 v2, HI h4 r1 q859.2.2.1, HR cy r1 ta q859.2.2.2]) (rest := []) X dL_tryArms_3 (c_X7_arms l D cy ad h0 h1 h2 h3 h4 h5 h6 h7 h8 h9 a1 a2 a3 a4 r1 ta v1 v2 vh vr p1 p2 hfl hq859) mf_X7_arms mv_X7_arms lkm_L_54 ⟨(Nat.le_of_ble_eq_true rfl), (Nat.le_of_ble_eq_true rfl), (Nat.le_of_ble_eq_true rfl), (Nat.le_of_ble_eq_true rfl)⟩ 0 0 rfl rfl rfl rfl [0, 1, 2, 3, 4] _ (by decide : [0, 1, 2, 3, 4].Perm (List.range 5)) rfl (by decide : [0, 1, 2, 3, 4].Perm (List.range 5)) rfl (Nat.le_of_ble_eq_true rfl) rfl ?_
    have hf := Option.some.inj hf
    subst hf
    exact g_iret X hr dL_tryArms_6
  · have hf := sinr hf
    by_cases c860 : q859.1 = 1
    · have hf := opos c860 hf
      refine g_xcallT (gs' := [FP h0 h1 h2 h3 h4 h5 h6 h7 h8 h9, TB cy h2 a1 a2 a3 q859.2.1, SU cy a2 a4 v2, HI h4 r1 q859.2.2.1, HR cy r1 ta q859.2.2.2]) (rest := []) X dL_tryArms_3 (c_X7_arms l D cy ad h0 h1 h2 h3 h4 h5 h6 h7 h8 h9 a1 a2 a3 a4 r1 ta v1 v2 vh vr p1 p2 hfl hq859) mf_X7_arms mv_X7_arms lkm_L_54 ⟨(Nat.le_of_ble_eq_true rfl), (Nat.le_of_ble_eq_true rfl), (Nat.le_of_ble_eq_true rfl), (Nat.le_of_ble_eq_true rfl)⟩ 0 0 rfl rfl rfl rfl [0, 1, 2, 3, 4] _ (by decide : [0, 1, 2, 3, 4].Perm (List.range 5)) rfl (by decide : [0, 1, 2, 3, 4].Perm (List.range 5)) rfl (Nat.le_of_ble_eq_true rfl) rfl ?_
      rw [c860]
      refine g_catch (k := 1) X htab [] ⟨0, 6, 7, 20⟩ [] rfl (fun z hz => absurd hz List.not_mem_nil) (by decide) (by decide) lkcl_20 (by decide) (fun q9 => ?_)
      refine g_astore_n (lv' := [(0, .ref h0), (1, .int p1), (2, .int p2), (3, .ref q9)]) X dL_tryArms_7 [1, 2, 3, 0] rfl (Nat.le_of_ble_eq_true rfl) rfl ?_
      refine g_ldc X lkc_L_22 dL_tryArms_8 ?_
      have hf := Option.some.inj hf
      subst hf
      exact g_iret X hr dL_tryArms_10
    · have hf := oneg c860 hf
      cases hf
abbrev rmL_tryWeigh : Room := ({ frames := 8, cells := 2, slots := 12, locals := 134 } : Room)
def f_L_tryWeigh (v1 : TBv) (v2 : Fn) (v3 : SCv) (vh : HIv) (vr : HRv) (p1 : Int32) (p2 : Int32) : Option (Int32 × TBv × Fn × SCv × HIv × HRv) :=
  (f_X7_weigh v1 v2 v3 vh vr p1 p2).bind (Sum.elim (fun q863 => some (q863.1, q863.2.1, q863.2.2.1, q863.2.2.2.1, q863.2.2.2.2.1, q863.2.2.2.2.2)) (fun q863 => if q863.1 = 1 then some ((-9999002 : Int32), q863.2.1, q863.2.2.1, q863.2.2.2.1, q863.2.2.2.2.1, q863.2.2.2.2.2) else if q863.1 = 2 then some ((-9999003 : Int32), q863.2.1, q863.2.2.1, q863.2.2.2.1, q863.2.2.2.2.1, q863.2.2.2.2.2) else none))
set_option maxRecDepth 100000 in
set_option maxHeartbeats 4000000 in
theorem c_L_tryWeigh (l : Launch) (D : va_G) (cy : Nat → ClassId) (ad : (Nat → Nat) × (Nat → Nat)) (h0 : Nat) (h1 : Nat) (h2 : Nat) (h3 : Nat) (h4 : Nat) (h5 : Nat) (h6 : Nat) (h7 : Nat) (h8 : Nat) (h9 : Nat) (a1 : Nat) (a2 : Nat) (a3 : Nat) (a4 : Nat) (r1 : Nat) (ta : TAd) (v1 : TBv) (v2 : Fn) (v3 : SCv) (vh : HIv) (vr : HRv) (p1 : Int32) (p2 : Int32) (hfl : l.stackTraces = false) {q : Int32 × TBv × Fn × SCv × HIv × HRv} (hf : f_L_tryWeigh v1 v2 v3 vh vr p1 p2 = some q) : CMW l yL_tryWeigh cL_tryWeigh 4 (some .int) [(0, 6, 7, 20), (0, 6, 11, 31)] rmL_tryWeigh D cy ad [.ref h0, .int p1, .int p2] [FP h0 h1 h2 h3 h4 h5 h6 h7 h8 h9, TB cy h2 a1 a2 a3 v1, SU cy a2 a4 v2, SC a3 v3, HI h4 r1 vh, HR cy r1 ta vr] (some (.int q.1)) [FP h0 h1 h2 h3 h4 h5 h6 h7 h8 h9, TB cy h2 a1 a2 a3 q.2.1, SU cy a2 a4 q.2.2.1, SC a3 q.2.2.2.1, HI h4 r1 q.2.2.2.2.1, HR cy r1 ta q.2.2.2.2.2] := by
  refine cmw_of (lv0 := [(0, .ref h0), (1, .int p1), (2, .int p2)]) (by decide) (Nat.le_of_ble_eq_true rfl) rfl ?_
  intro p e s m args below meth c A X hr htab
  have X : gK p s m args meth c A D cy ad cL_tryWeigh 4 RL := X
  unfold f_L_tryWeigh at hf
  refine g_aload_n X dL_tryWeigh_0 0 rfl rfl ?_
  refine g_iload_n X dL_tryWeigh_1 1 rfl rfl ?_
  refine g_iload_n X dL_tryWeigh_2 2 rfl rfl ?_
  obtain ⟨q863, hq863, hf⟩ := obind hf
  rcases q863 with q863 | q863
  · have hf := sinl hf
    refine g_xcallR (gs' := [FP h0 h1 h2 h3 h4 h5 h6 h7 h8 h9, TB cy h2 a1 a2 a3 q863.2.1, SU cy a2 a4 q863.2.2.1, SC a3 q863.2.2.2.1, HI h4 r1 q863.2.2.2.2.1, HR cy r1 ta q863.2.2.2.2.2]) (rest := []) X dL_tryWeigh_3 (c_X7_weigh l D cy ad h0 h1 h2 h3 h4 h5 h6 h7 h8 h9 a1 a2 a3 a4 r1 ta v1 v2 v3 vh vr p1 p2 hfl hq863) mf_X7_weigh mv_X7_weigh lkm_L_57 ⟨(Nat.le_of_ble_eq_true rfl), (Nat.le_of_ble_eq_true rfl), (Nat.le_of_ble_eq_true rfl), (Nat.le_of_ble_eq_true rfl)⟩ 0 0 rfl rfl rfl rfl [0, 1, 2, 3, 4, 5] _ (by decide : [0, 1, 2, 3, 4, 5].Perm (List.range 6)) rfl (by decide : [0, 1, 2, 3, 4, 5].Perm (List.range 6)) rfl (Nat.le_of_ble_eq_true rfl) rfl ?_
    have hf := Option.some.inj hf
    subst hf
    exact g_iret X hr dL_tryWeigh_6
  · have hf := sinr hf
    by_cases c864 : q863.1 = 1
    · have hf := opos c864 hf
      refine g_xcallT (gs' := [FP h0 h1 h2 h3 h4 h5 h6 h7 h8 h9, TB cy h2 a1 a2 a3 q863.2.1, SU cy a2 a4 q863.2.2.1, SC a3 q863.2.2.2.1, HI h4 r1 q863.2.2.2.2.1, HR cy r1 ta q863.2.2.2.2.2]) (rest := []) X dL_tryWeigh_3 (c_X7_weigh l D cy ad h0 h1 h2 h3 h4 h5 h6 h7 h8 h9 a1 a2 a3 a4 r1 ta v1 v2 v3 vh vr p1 p2 hfl hq863) mf_X7_weigh mv_X7_weigh lkm_L_57 ⟨(Nat.le_of_ble_eq_true rfl), (Nat.le_of_ble_eq_true rfl), (Nat.le_of_ble_eq_true rfl), (Nat.le_of_ble_eq_true rfl)⟩ 0 0 rfl rfl rfl rfl [0, 1, 2, 3, 4, 5] _ (by decide : [0, 1, 2, 3, 4, 5].Perm (List.range 6)) rfl (by decide : [0, 1, 2, 3, 4, 5].Perm (List.range 6)) rfl (Nat.le_of_ble_eq_true rfl) rfl ?_
      rw [c864]
      refine g_catch (k := 1) X htab [] ⟨0, 6, 7, 20⟩ [⟨0, 6, 11, 31⟩] rfl (fun z hz => absurd hz List.not_mem_nil) (by decide) (by decide) lkcl_20 (by decide) (fun q9 => ?_)
      refine g_astore_n (lv' := [(0, .ref h0), (1, .int p1), (2, .int p2), (3, .ref q9)]) X dL_tryWeigh_7 [1, 2, 3, 0] rfl (Nat.le_of_ble_eq_true rfl) rfl ?_
      refine g_ldc X lkc_L_22 dL_tryWeigh_8 ?_
      have hf := Option.some.inj hf
      subst hf
      exact g_iret X hr dL_tryWeigh_10
    · have hf := oneg c864 hf
      by_cases c865 : q863.1 = 2
      · have hf := opos c865 hf
        refine g_xcallT (gs' := [FP h0 h1 h2 h3 h4 h5 h6 h7 h8 h9, TB cy h2 a1 a2 a3 q863.2.1, SU cy a2 a4 q863.2.2.1, SC a3 q863.2.2.2.1, HI h4 r1 q863.2.2.2.2.1, HR cy r1 ta q863.2.2.2.2.2]) (rest := []) X dL_tryWeigh_3 (c_X7_weigh l D cy ad h0 h1 h2 h3 h4 h5 h6 h7 h8 h9 a1 a2 a3 a4 r1 ta v1 v2 v3 vh vr p1 p2 hfl hq863) mf_X7_weigh mv_X7_weigh lkm_L_57 ⟨(Nat.le_of_ble_eq_true rfl), (Nat.le_of_ble_eq_true rfl), (Nat.le_of_ble_eq_true rfl), (Nat.le_of_ble_eq_true rfl)⟩ 0 0 rfl rfl rfl rfl [0, 1, 2, 3, 4, 5] _ (by decide : [0, 1, 2, 3, 4, 5].Perm (List.range 6)) rfl (by decide : [0, 1, 2, 3, 4, 5].Perm (List.range 6)) rfl (Nat.le_of_ble_eq_true rfl) rfl ?_
        rw [c865]
        refine g_catch (k := 2) X htab [⟨0, 6, 7, 20⟩] ⟨0, 6, 11, 31⟩ [] rfl (fun z hz => by cases List.mem_singleton.mp hz; exact ⟨by decide, _, lkcl_20, by decide⟩) (by decide) (by decide) lkcl_31 (by decide) (fun q9 => ?_)
        refine g_astore_n (lv' := [(0, .ref h0), (1, .int p1), (2, .int p2), (3, .ref q9)]) X dL_tryWeigh_11 [1, 2, 3, 0] rfl (Nat.le_of_ble_eq_true rfl) rfl ?_
        refine g_ldc X lkc_L_33 dL_tryWeigh_12 ?_
        have hf := Option.some.inj hf
        subst hf
        exact g_iret X hr dL_tryWeigh_14
      · have hf := oneg c865 hf
        cases hf
abbrev rmL_tryPan : Room := ({ frames := 7, cells := 1, slots := 6, locals := 111 } : Room)
def f_L_tryPan (v1 : TBv) (v2 : Fn) (vh : HIv) (vr : HRv) (p1 : Int32) : Option (Int32 × TBv × HIv × HRv) :=
  (f_X7_accusePan v1 v2 vh vr p1).bind (Sum.elim (fun q868 => some (q868.1, q868.2.1, q868.2.2.1, q868.2.2.2)) (fun q868 => if q868.1 = 1 then some ((-9999002 : Int32), q868.2.1, q868.2.2.1, q868.2.2.2) else none))
set_option maxRecDepth 100000 in
set_option maxHeartbeats 4000000 in
theorem c_L_tryPan (l : Launch) (D : va_G) (cy : Nat → ClassId) (ad : (Nat → Nat) × (Nat → Nat)) (h0 : Nat) (h1 : Nat) (h2 : Nat) (h3 : Nat) (h4 : Nat) (h5 : Nat) (h6 : Nat) (h7 : Nat) (h8 : Nat) (h9 : Nat) (a1 : Nat) (a2 : Nat) (a3 : Nat) (a4 : Nat) (r1 : Nat) (ta : TAd) (v1 : TBv) (v2 : Fn) (vh : HIv) (vr : HRv) (p1 : Int32) (hfl : l.stackTraces = false) {q : Int32 × TBv × HIv × HRv} (hf : f_L_tryPan v1 v2 vh vr p1 = some q) : CMW l yL_tryPan cL_tryPan 3 (some .int) [(0, 5, 6, 20)] rmL_tryPan D cy ad [.ref h0, .int p1] [FP h0 h1 h2 h3 h4 h5 h6 h7 h8 h9, TB cy h2 a1 a2 a3 v1, SU cy a2 a4 v2, HI h4 r1 vh, HR cy r1 ta vr] (some (.int q.1)) [FP h0 h1 h2 h3 h4 h5 h6 h7 h8 h9, TB cy h2 a1 a2 a3 q.2.1, SU cy a2 a4 v2, HI h4 r1 q.2.2.1, HR cy r1 ta q.2.2.2] := by
  refine cmw_of (lv0 := [(0, .ref h0), (1, .int p1)]) (by decide) (Nat.le_of_ble_eq_true rfl) rfl ?_
  intro p e s m args below meth c A X hr htab
  have X : gK p s m args meth c A D cy ad cL_tryPan 3 RL := X
  unfold f_L_tryPan at hf
  refine g_aload_n X dL_tryPan_0 0 rfl rfl ?_
  refine g_iload_n X dL_tryPan_1 1 rfl rfl ?_
  obtain ⟨q868, hq868, hf⟩ := obind hf
  rcases q868 with q868 | q868
  · have hf := sinl hf
    refine g_xcallR (gs' := [FP h0 h1 h2 h3 h4 h5 h6 h7 h8 h9, TB cy h2 a1 a2 a3 q868.2.1, SU cy a2 a4 v2, HI h4 r1 q868.2.2.1, HR cy r1 ta q868.2.2.2]) (rest := []) X dL_tryPan_2 (c_X7_accusePan l D cy ad h0 h1 h2 h3 h4 h5 h6 h7 h8 h9 a1 a2 a3 a4 r1 ta v1 v2 vh vr p1 hfl hq868) mf_X7_accusePan mv_X7_accusePan lkm_L_60 ⟨(Nat.le_of_ble_eq_true rfl), (Nat.le_of_ble_eq_true rfl), (Nat.le_of_ble_eq_true rfl), (Nat.le_of_ble_eq_true rfl)⟩ 0 0 rfl rfl rfl rfl [0, 1, 2, 3, 4] _ (by decide : [0, 1, 2, 3, 4].Perm (List.range 5)) rfl (by decide : [0, 1, 2, 3, 4].Perm (List.range 5)) rfl (Nat.le_of_ble_eq_true rfl) rfl ?_
    have hf := Option.some.inj hf
    subst hf
    exact g_iret X hr dL_tryPan_5
  · have hf := sinr hf
    by_cases c869 : q868.1 = 1
    · have hf := opos c869 hf
      refine g_xcallT (gs' := [FP h0 h1 h2 h3 h4 h5 h6 h7 h8 h9, TB cy h2 a1 a2 a3 q868.2.1, SU cy a2 a4 v2, HI h4 r1 q868.2.2.1, HR cy r1 ta q868.2.2.2]) (rest := []) X dL_tryPan_2 (c_X7_accusePan l D cy ad h0 h1 h2 h3 h4 h5 h6 h7 h8 h9 a1 a2 a3 a4 r1 ta v1 v2 vh vr p1 hfl hq868) mf_X7_accusePan mv_X7_accusePan lkm_L_60 ⟨(Nat.le_of_ble_eq_true rfl), (Nat.le_of_ble_eq_true rfl), (Nat.le_of_ble_eq_true rfl), (Nat.le_of_ble_eq_true rfl)⟩ 0 0 rfl rfl rfl rfl [0, 1, 2, 3, 4] _ (by decide : [0, 1, 2, 3, 4].Perm (List.range 5)) rfl (by decide : [0, 1, 2, 3, 4].Perm (List.range 5)) rfl (Nat.le_of_ble_eq_true rfl) rfl ?_
      rw [c869]
      refine g_catch (k := 1) X htab [] ⟨0, 5, 6, 20⟩ [] rfl (fun z hz => absurd hz List.not_mem_nil) (by decide) (by decide) lkcl_20 (by decide) (fun q9 => ?_)
      refine g_astore_n (lv' := [(0, .ref h0), (1, .int p1), (2, .ref q9)]) X dL_tryPan_6 [1, 2, 0] rfl (Nat.le_of_ble_eq_true rfl) rfl ?_
      refine g_ldc X lkc_L_22 dL_tryPan_7 ?_
      have hf := Option.some.inj hf
      subst hf
      exact g_iret X hr dL_tryPan_9
    · have hf := oneg c869 hf
      cases hf
abbrev rmL_tryForget : Room := ({ frames := 7, cells := 1, slots := 6, locals := 110 } : Room)
def f_L_tryForget (v1 : TBv) (v2 : Fn) (v3 : SCv) (vh : HIv) (vr : HRv) : Option (Int32 × TBv × Fn × SCv × HIv × HRv) :=
  (f_X7_forget v1 v2 v3 vh vr).bind (Sum.elim (fun q872 => some (q872.1, q872.2.1, q872.2.2.1, q872.2.2.2.1, q872.2.2.2.2.1, q872.2.2.2.2.2)) (fun q872 => if q872.1 = 2 then some ((-9999003 : Int32), q872.2.1, q872.2.2.1, q872.2.2.2.1, q872.2.2.2.2.1, q872.2.2.2.2.2) else none))
set_option maxRecDepth 100000 in
set_option maxHeartbeats 4000000 in
theorem c_L_tryForget (l : Launch) (D : va_G) (cy : Nat → ClassId) (ad : (Nat → Nat) × (Nat → Nat)) (h0 : Nat) (h1 : Nat) (h2 : Nat) (h3 : Nat) (h4 : Nat) (h5 : Nat) (h6 : Nat) (h7 : Nat) (h8 : Nat) (h9 : Nat) (a1 : Nat) (a2 : Nat) (a3 : Nat) (a4 : Nat) (r1 : Nat) (ta : TAd) (v1 : TBv) (v2 : Fn) (v3 : SCv) (vh : HIv) (vr : HRv) (hfl : l.stackTraces = false) {q : Int32 × TBv × Fn × SCv × HIv × HRv} (hf : f_L_tryForget v1 v2 v3 vh vr = some q) : CMW l yL_tryForget cL_tryForget 2 (some .int) [(0, 4, 5, 31)] rmL_tryForget D cy ad [.ref h0] [FP h0 h1 h2 h3 h4 h5 h6 h7 h8 h9, TB cy h2 a1 a2 a3 v1, SU cy a2 a4 v2, SC a3 v3, HI h4 r1 vh, HR cy r1 ta vr] (some (.int q.1)) [FP h0 h1 h2 h3 h4 h5 h6 h7 h8 h9, TB cy h2 a1 a2 a3 q.2.1, SU cy a2 a4 q.2.2.1, SC a3 q.2.2.2.1, HI h4 r1 q.2.2.2.2.1, HR cy r1 ta q.2.2.2.2.2] := by
  refine cmw_of (lv0 := [(0, .ref h0)]) (by decide) (Nat.le_of_ble_eq_true rfl) rfl ?_
  intro p e s m args below meth c A X hr htab
  have X : gK p s m args meth c A D cy ad cL_tryForget 2 RL := X
  unfold f_L_tryForget at hf
  refine g_aload_n X dL_tryForget_0 0 rfl rfl ?_
  obtain ⟨q872, hq872, hf⟩ := obind hf
  rcases q872 with q872 | q872
  · have hf := sinl hf
    refine g_xcallR (gs' := [FP h0 h1 h2 h3 h4 h5 h6 h7 h8 h9, TB cy h2 a1 a2 a3 q872.2.1, SU cy a2 a4 q872.2.2.1, SC a3 q872.2.2.2.1, HI h4 r1 q872.2.2.2.2.1, HR cy r1 ta q872.2.2.2.2.2]) (rest := []) X dL_tryForget_1 (c_X7_forget l D cy ad h0 h1 h2 h3 h4 h5 h6 h7 h8 h9 a1 a2 a3 a4 r1 ta v1 v2 v3 vh vr hfl hq872) mf_X7_forget mv_X7_forget lkm_L_63 ⟨(Nat.le_of_ble_eq_true rfl), (Nat.le_of_ble_eq_true rfl), (Nat.le_of_ble_eq_true rfl), (Nat.le_of_ble_eq_true rfl)⟩ 0 0 rfl rfl rfl rfl [0, 1, 2, 3, 4, 5] _ (by decide : [0, 1, 2, 3, 4, 5].Perm (List.range 6)) rfl (by decide : [0, 1, 2, 3, 4, 5].Perm (List.range 6)) rfl (Nat.le_of_ble_eq_true rfl) rfl ?_
    have hf := Option.some.inj hf
    subst hf
    exact g_iret X hr dL_tryForget_4
  · have hf := sinr hf
    by_cases c873 : q872.1 = 2
    · have hf := opos c873 hf
      refine g_xcallT (gs' := [FP h0 h1 h2 h3 h4 h5 h6 h7 h8 h9, TB cy h2 a1 a2 a3 q872.2.1, SU cy a2 a4 q872.2.2.1, SC a3 q872.2.2.2.1, HI h4 r1 q872.2.2.2.2.1, HR cy r1 ta q872.2.2.2.2.2]) (rest := []) X dL_tryForget_1 (c_X7_forget l D cy ad h0 h1 h2 h3 h4 h5 h6 h7 h8 h9 a1 a2 a3 a4 r1 ta v1 v2 v3 vh vr hfl hq872) mf_X7_forget mv_X7_forget lkm_L_63 ⟨(Nat.le_of_ble_eq_true rfl), (Nat.le_of_ble_eq_true rfl), (Nat.le_of_ble_eq_true rfl), (Nat.le_of_ble_eq_true rfl)⟩ 0 0 rfl rfl rfl rfl [0, 1, 2, 3, 4, 5] _ (by decide : [0, 1, 2, 3, 4, 5].Perm (List.range 6)) rfl (by decide : [0, 1, 2, 3, 4, 5].Perm (List.range 6)) rfl (Nat.le_of_ble_eq_true rfl) rfl ?_
      rw [c873]
      refine g_catch (k := 2) X htab [] ⟨0, 4, 5, 31⟩ [] rfl (fun z hz => absurd hz List.not_mem_nil) (by decide) (by decide) lkcl_31 (by decide) (fun q9 => ?_)
      refine g_astore_n (lv' := [(0, .ref h0), (1, .ref q9)]) X dL_tryForget_5 [1, 0] rfl (Nat.le_of_ble_eq_true rfl) rfl ?_
      refine g_ldc X lkc_L_33 dL_tryForget_6 ?_
      have hf := Option.some.inj hf
      subst hf
      exact g_iret X hr dL_tryForget_8
    · have hf := oneg c873 hf
      cases hf
abbrev rmL_tryUndo : Room := ({ frames := 7, cells := 1, slots := 6, locals := 110 } : Room)
def f_L_tryUndo (v1 : TBv) (v2 : Fn) (vh : HIv) (vr : HRv) : Option (Int32 × TBv × Fn × HIv) :=
  (f_X7_undo v1 v2 vh vr).bind (Sum.elim (fun q876 => some (q876.1, q876.2.1, q876.2.2.1, q876.2.2.2)) (fun q876 => if q876.1 = 2 then some ((-9999003 : Int32), q876.2.1, q876.2.2.1, q876.2.2.2) else none))
set_option maxRecDepth 100000 in
set_option maxHeartbeats 4000000 in
theorem c_L_tryUndo (l : Launch) (D : va_G) (cy : Nat → ClassId) (ad : (Nat → Nat) × (Nat → Nat)) (h0 : Nat) (h1 : Nat) (h2 : Nat) (h3 : Nat) (h4 : Nat) (h5 : Nat) (h6 : Nat) (h7 : Nat) (h8 : Nat) (h9 : Nat) (a1 : Nat) (a2 : Nat) (a3 : Nat) (a4 : Nat) (r1 : Nat) (ta : TAd) (v1 : TBv) (v2 : Fn) (vh : HIv) (vr : HRv) (hfl : l.stackTraces = false) {q : Int32 × TBv × Fn × HIv} (hf : f_L_tryUndo v1 v2 vh vr = some q) : CMW l yL_tryUndo cL_tryUndo 2 (some .int) [(0, 4, 5, 31)] rmL_tryUndo D cy ad [.ref h0] [FP h0 h1 h2 h3 h4 h5 h6 h7 h8 h9, TB cy h2 a1 a2 a3 v1, SU cy a2 a4 v2, HI h4 r1 vh, HR cy r1 ta vr] (some (.int q.1)) [FP h0 h1 h2 h3 h4 h5 h6 h7 h8 h9, TB cy h2 a1 a2 a3 q.2.1, SU cy a2 a4 q.2.2.1, HI h4 r1 q.2.2.2, HR cy r1 ta vr] := by
  refine cmw_of (lv0 := [(0, .ref h0)]) (by decide) (Nat.le_of_ble_eq_true rfl) rfl ?_
  intro p e s m args below meth c A X hr htab
  have X : gK p s m args meth c A D cy ad cL_tryUndo 2 RL := X
  unfold f_L_tryUndo at hf
  refine g_aload_n X dL_tryUndo_0 0 rfl rfl ?_
  obtain ⟨q876, hq876, hf⟩ := obind hf
  rcases q876 with q876 | q876
  · have hf := sinl hf
    refine g_xcallR (gs' := [FP h0 h1 h2 h3 h4 h5 h6 h7 h8 h9, TB cy h2 a1 a2 a3 q876.2.1, SU cy a2 a4 q876.2.2.1, HI h4 r1 q876.2.2.2, HR cy r1 ta vr]) (rest := []) X dL_tryUndo_1 (c_X7_undo l D cy ad h0 h1 h2 h3 h4 h5 h6 h7 h8 h9 a1 a2 a3 a4 r1 ta v1 v2 vh vr hfl hq876) mf_X7_undo mv_X7_undo lkm_L_66 ⟨(Nat.le_of_ble_eq_true rfl), (Nat.le_of_ble_eq_true rfl), (Nat.le_of_ble_eq_true rfl), (Nat.le_of_ble_eq_true rfl)⟩ 0 0 rfl rfl rfl rfl [0, 1, 2, 3, 4] _ (by decide : [0, 1, 2, 3, 4].Perm (List.range 5)) rfl (by decide : [0, 1, 2, 3, 4].Perm (List.range 5)) rfl (Nat.le_of_ble_eq_true rfl) rfl ?_
    have hf := Option.some.inj hf
    subst hf
    exact g_iret X hr dL_tryUndo_4
  · have hf := sinr hf
    by_cases c877 : q876.1 = 2
    · have hf := opos c877 hf
      refine g_xcallT (gs' := [FP h0 h1 h2 h3 h4 h5 h6 h7 h8 h9, TB cy h2 a1 a2 a3 q876.2.1, SU cy a2 a4 q876.2.2.1, HI h4 r1 q876.2.2.2, HR cy r1 ta vr]) (rest := []) X dL_tryUndo_1 (c_X7_undo l D cy ad h0 h1 h2 h3 h4 h5 h6 h7 h8 h9 a1 a2 a3 a4 r1 ta v1 v2 vh vr hfl hq876) mf_X7_undo mv_X7_undo lkm_L_66 ⟨(Nat.le_of_ble_eq_true rfl), (Nat.le_of_ble_eq_true rfl), (Nat.le_of_ble_eq_true rfl), (Nat.le_of_ble_eq_true rfl)⟩ 0 0 rfl rfl rfl rfl [0, 1, 2, 3, 4] _ (by decide : [0, 1, 2, 3, 4].Perm (List.range 5)) rfl (by decide : [0, 1, 2, 3, 4].Perm (List.range 5)) rfl (Nat.le_of_ble_eq_true rfl) rfl ?_
      rw [c877]
      refine g_catch (k := 2) X htab [] ⟨0, 4, 5, 31⟩ [] rfl (fun z hz => absurd hz List.not_mem_nil) (by decide) (by decide) lkcl_31 (by decide) (fun q9 => ?_)
      refine g_astore_n (lv' := [(0, .ref h0), (1, .ref q9)]) X dL_tryUndo_5 [1, 0] rfl (Nat.le_of_ble_eq_true rfl) rfl ?_
      refine g_ldc X lkc_L_33 dL_tryUndo_6 ?_
      have hf := Option.some.inj hf
      subst hf
      exact g_iret X hr dL_tryUndo_8
    · have hf := oneg c877 hf
      cases hf
abbrev rmL_tryLeaves : Room := ({ frames := 8, cells := 2, slots := 12, locals := 135 } : Room)
def f_L_tryLeaves (v1 : TBv) (v2 : Fn) (v3 : SCv) (v13 : TAv) (p1 : Int32) (p2 : Int32) (p3 : Int32) : Option (Int32 × SCv × TAv) :=
  (f_X7_leaves v1 v2 v3 v13 p1 p2 p3).bind (Sum.elim (fun q880 => some (q880.1, q880.2.1, q880.2.2)) (fun q880 => if q880.1 = 3 then some ((-9999001 : Int32), q880.2.1, q880.2.2) else if q880.1 = 1 then some ((-9999002 : Int32), q880.2.1, q880.2.2) else none))
set_option maxRecDepth 100000 in
set_option maxHeartbeats 4000000 in
theorem c_L_tryLeaves (l : Launch) (D : va_G) (cy : Nat → ClassId) (ad : (Nat → Nat) × (Nat → Nat)) (h0 : Nat) (h1 : Nat) (h2 : Nat) (h3 : Nat) (h4 : Nat) (h5 : Nat) (h6 : Nat) (h7 : Nat) (h8 : Nat) (h9 : Nat) (a1 : Nat) (a2 : Nat) (a3 : Nat) (a4 : Nat) (v1 : TBv) (v2 : Fn) (v3 : SCv) (v13 : TAv) (p1 : Int32) (p2 : Int32) (p3 : Int32) (hfl : l.stackTraces = false) {q : Int32 × SCv × TAv} (hf : f_L_tryLeaves v1 v2 v3 v13 p1 p2 p3 = some q) : CMW l yL_tryLeaves cL_tryLeaves 5 (some .int) [(0, 7, 8, 13), (0, 7, 13, 20)] rmL_tryLeaves D cy ad [.ref h0, .int p1, .int p2, .int p3] [FP h0 h1 h2 h3 h4 h5 h6 h7 h8 h9, TB cy h2 a1 a2 a3 v1, SU cy a2 a4 v2, SC a3 v3, TA h7 v13] (some (.int q.1)) [FP h0 h1 h2 h3 h4 h5 h6 h7 h8 h9, TB cy h2 a1 a2 a3 v1, SU cy a2 a4 v2, SC a3 q.2.1, TA h7 q.2.2] := by
  refine cmw_of (lv0 := [(0, .ref h0), (1, .int p1), (2, .int p2), (3, .int p3)]) (by decide) (Nat.le_of_ble_eq_true rfl) rfl ?_
  intro p e s m args below meth c A X hr htab
  have X : gK p s m args meth c A D cy ad cL_tryLeaves 5 RL := X
  unfold f_L_tryLeaves at hf
  refine g_aload_n X dL_tryLeaves_0 0 rfl rfl ?_
  refine g_iload_n X dL_tryLeaves_1 1 rfl rfl ?_
  refine g_iload_n X dL_tryLeaves_2 2 rfl rfl ?_
  refine g_iload_n X dL_tryLeaves_3 3 rfl rfl ?_
  obtain ⟨q880, hq880, hf⟩ := obind hf
  rcases q880 with q880 | q880
  · have hf := sinl hf
    refine g_xcallR (gs' := [FP h0 h1 h2 h3 h4 h5 h6 h7 h8 h9, TB cy h2 a1 a2 a3 v1, SU cy a2 a4 v2, SC a3 q880.2.1, TA h7 q880.2.2]) (rest := []) X dL_tryLeaves_4 (c_X7_leaves l D cy ad h0 h1 h2 h3 h4 h5 h6 h7 h8 h9 a1 a2 a3 a4 v1 v2 v3 v13 p1 p2 p3 hfl hq880) mf_X7_leaves mv_X7_leaves lkm_L_69 ⟨(Nat.le_of_ble_eq_true rfl), (Nat.le_of_ble_eq_true rfl), (Nat.le_of_ble_eq_true rfl), (Nat.le_of_ble_eq_true rfl)⟩ 0 0 rfl rfl rfl rfl [0, 1, 2, 3, 4] _ (by decide : [0, 1, 2, 3, 4].Perm (List.range 5)) rfl (by decide : [0, 1, 2, 3, 4].Perm (List.range 5)) rfl (Nat.le_of_ble_eq_true rfl) rfl ?_
    have hf := Option.some.inj hf
    subst hf
    exact g_iret X hr dL_tryLeaves_7
  · have hf := sinr hf
    by_cases c881 : q880.1 = 3
    · have hf := opos c881 hf
      refine g_xcallT (gs' := [FP h0 h1 h2 h3 h4 h5 h6 h7 h8 h9, TB cy h2 a1 a2 a3 v1, SU cy a2 a4 v2, SC a3 q880.2.1, TA h7 q880.2.2]) (rest := []) X dL_tryLeaves_4 (c_X7_leaves l D cy ad h0 h1 h2 h3 h4 h5 h6 h7 h8 h9 a1 a2 a3 a4 v1 v2 v3 v13 p1 p2 p3 hfl hq880) mf_X7_leaves mv_X7_leaves lkm_L_69 ⟨(Nat.le_of_ble_eq_true rfl), (Nat.le_of_ble_eq_true rfl), (Nat.le_of_ble_eq_true rfl), (Nat.le_of_ble_eq_true rfl)⟩ 0 0 rfl rfl rfl rfl [0, 1, 2, 3, 4] _ (by decide : [0, 1, 2, 3, 4].Perm (List.range 5)) rfl (by decide : [0, 1, 2, 3, 4].Perm (List.range 5)) rfl (Nat.le_of_ble_eq_true rfl) rfl ?_
      rw [c881]
      refine g_catch (k := 3) X htab [] ⟨0, 7, 8, 13⟩ [⟨0, 7, 13, 20⟩] rfl (fun z hz => absurd hz List.not_mem_nil) (by decide) (by decide) lkcl_13 (by decide) (fun q9 => ?_)
      refine g_astore (lv' := [(0, .ref h0), (1, .int p1), (2, .int p2), (3, .int p3), (4, .ref q9)]) X dL_tryLeaves_8 [1, 2, 3, 4, 0] (Nat.le_of_ble_eq_true rfl) rfl ?_
      refine g_ldc X lkc_L_15 dL_tryLeaves_10 ?_
      have hf := Option.some.inj hf
      subst hf
      exact g_iret X hr dL_tryLeaves_12
    · have hf := oneg c881 hf
      by_cases c882 : q880.1 = 1
      · have hf := opos c882 hf
        refine g_xcallT (gs' := [FP h0 h1 h2 h3 h4 h5 h6 h7 h8 h9, TB cy h2 a1 a2 a3 v1, SU cy a2 a4 v2, SC a3 q880.2.1, TA h7 q880.2.2]) (rest := []) X dL_tryLeaves_4 (c_X7_leaves l D cy ad h0 h1 h2 h3 h4 h5 h6 h7 h8 h9 a1 a2 a3 a4 v1 v2 v3 v13 p1 p2 p3 hfl hq880) mf_X7_leaves mv_X7_leaves lkm_L_69 ⟨(Nat.le_of_ble_eq_true rfl), (Nat.le_of_ble_eq_true rfl), (Nat.le_of_ble_eq_true rfl), (Nat.le_of_ble_eq_true rfl)⟩ 0 0 rfl rfl rfl rfl [0, 1, 2, 3, 4] _ (by decide : [0, 1, 2, 3, 4].Perm (List.range 5)) rfl (by decide : [0, 1, 2, 3, 4].Perm (List.range 5)) rfl (Nat.le_of_ble_eq_true rfl) rfl ?_
        rw [c882]
        refine g_catch (k := 1) X htab [⟨0, 7, 8, 13⟩] ⟨0, 7, 13, 20⟩ [] rfl (fun z hz => by cases List.mem_singleton.mp hz; exact ⟨by decide, _, lkcl_13, by decide⟩) (by decide) (by decide) lkcl_20 (by decide) (fun q9 => ?_)
        refine g_astore (lv' := [(0, .ref h0), (1, .int p1), (2, .int p2), (3, .int p3), (4, .ref q9)]) X dL_tryLeaves_13 [1, 2, 3, 4, 0] (Nat.le_of_ble_eq_true rfl) rfl ?_
        refine g_ldc X lkc_L_22 dL_tryLeaves_15 ?_
        have hf := Option.some.inj hf
        subst hf
        exact g_iret X hr dL_tryLeaves_17
      · have hf := oneg c882 hf
        cases hf
abbrev rmL_tryBest : Room := ({ frames := 7, cells := 1, slots := 6, locals := 129 } : Room)
def f_L_tryBest (v1 : TBv) (v2 : Fn) (v3 : SCv) (v13 : TAv) (v14 : Fn) (v15 : Fn) (p1 : Int32) (p2 : Int32) : Option (Int32 × SCv × TAv) :=
  (f_X7_best v1 v2 v3 v13 v14 v15 p1 p2).bind (Sum.elim (fun q885 => some (q885.1, q885.2.1, q885.2.2)) (fun q885 => if q885.1 = 1 then some ((-9999002 : Int32), q885.2.1, q885.2.2) else none))
set_option maxRecDepth 100000 in
set_option maxHeartbeats 4000000 in
theorem c_L_tryBest (l : Launch) (D : va_G) (cy : Nat → ClassId) (ad : (Nat → Nat) × (Nat → Nat)) (h0 : Nat) (h1 : Nat) (h2 : Nat) (h3 : Nat) (h4 : Nat) (h5 : Nat) (h6 : Nat) (h7 : Nat) (h8 : Nat) (h9 : Nat) (a1 : Nat) (a2 : Nat) (a3 : Nat) (a4 : Nat) (v1 : TBv) (v2 : Fn) (v3 : SCv) (v13 : TAv) (v14 : Fn) (v15 : Fn) (p1 : Int32) (p2 : Int32) (hfl : l.stackTraces = false) {q : Int32 × SCv × TAv} (hf : f_L_tryBest v1 v2 v3 v13 v14 v15 p1 p2 = some q) : CMW l yL_tryBest cL_tryBest 4 (some .int) [(0, 6, 7, 20)] rmL_tryBest D cy ad [.ref h0, .int p1, .int p2] [FP h0 h1 h2 h3 h4 h5 h6 h7 h8 h9, TB cy h2 a1 a2 a3 v1, SU cy a2 a4 v2, SC a3 v3, TA h7 v13, AI cy 12 h8 v14, AI cy 66 h9 v15] (some (.int q.1)) [FP h0 h1 h2 h3 h4 h5 h6 h7 h8 h9, TB cy h2 a1 a2 a3 v1, SU cy a2 a4 v2, SC a3 q.2.1, TA h7 q.2.2, AI cy 12 h8 v14, AI cy 66 h9 v15] := by
  refine cmw_of (lv0 := [(0, .ref h0), (1, .int p1), (2, .int p2)]) (by decide) (Nat.le_of_ble_eq_true rfl) rfl ?_
  intro p e s m args below meth c A X hr htab
  have X : gK p s m args meth c A D cy ad cL_tryBest 4 RL := X
  unfold f_L_tryBest at hf
  refine g_aload_n X dL_tryBest_0 0 rfl rfl ?_
  refine g_iload_n X dL_tryBest_1 1 rfl rfl ?_
  refine g_iload_n X dL_tryBest_2 2 rfl rfl ?_
  obtain ⟨q885, hq885, hf⟩ := obind hf
  rcases q885 with q885 | q885
  · have hf := sinl hf
    refine g_xcallR (gs' := [FP h0 h1 h2 h3 h4 h5 h6 h7 h8 h9, TB cy h2 a1 a2 a3 v1, SU cy a2 a4 v2, SC a3 q885.2.1, TA h7 q885.2.2, AI cy 12 h8 v14, AI cy 66 h9 v15]) (rest := []) X dL_tryBest_3 (c_X7_best l D cy ad h0 h1 h2 h3 h4 h5 h6 h7 h8 h9 a1 a2 a3 a4 v1 v2 v3 v13 v14 v15 p1 p2 hfl hq885) mf_X7_best mv_X7_best lkm_L_73 ⟨(Nat.le_of_ble_eq_true rfl), (Nat.le_of_ble_eq_true rfl), (Nat.le_of_ble_eq_true rfl), (Nat.le_of_ble_eq_true rfl)⟩ 0 0 rfl rfl rfl rfl [0, 1, 2, 3, 4, 5, 6] _ (by decide : [0, 1, 2, 3, 4, 5, 6].Perm (List.range 7)) rfl (by decide : [0, 1, 2, 3, 4, 5, 6].Perm (List.range 7)) rfl (Nat.le_of_ble_eq_true rfl) rfl ?_
    have hf := Option.some.inj hf
    subst hf
    exact g_iret X hr dL_tryBest_6
  · have hf := sinr hf
    by_cases c886 : q885.1 = 1
    · have hf := opos c886 hf
      refine g_xcallT (gs' := [FP h0 h1 h2 h3 h4 h5 h6 h7 h8 h9, TB cy h2 a1 a2 a3 v1, SU cy a2 a4 v2, SC a3 q885.2.1, TA h7 q885.2.2, AI cy 12 h8 v14, AI cy 66 h9 v15]) (rest := []) X dL_tryBest_3 (c_X7_best l D cy ad h0 h1 h2 h3 h4 h5 h6 h7 h8 h9 a1 a2 a3 a4 v1 v2 v3 v13 v14 v15 p1 p2 hfl hq885) mf_X7_best mv_X7_best lkm_L_73 ⟨(Nat.le_of_ble_eq_true rfl), (Nat.le_of_ble_eq_true rfl), (Nat.le_of_ble_eq_true rfl), (Nat.le_of_ble_eq_true rfl)⟩ 0 0 rfl rfl rfl rfl [0, 1, 2, 3, 4, 5, 6] _ (by decide : [0, 1, 2, 3, 4, 5, 6].Perm (List.range 7)) rfl (by decide : [0, 1, 2, 3, 4, 5, 6].Perm (List.range 7)) rfl (Nat.le_of_ble_eq_true rfl) rfl ?_
      rw [c886]
      refine g_catch (k := 1) X htab [] ⟨0, 6, 7, 20⟩ [] rfl (fun z hz => absurd hz List.not_mem_nil) (by decide) (by decide) lkcl_20 (by decide) (fun q9 => ?_)
      refine g_astore_n (lv' := [(0, .ref h0), (1, .int p1), (2, .int p2), (3, .ref q9)]) X dL_tryBest_7 [1, 2, 3, 0] rfl (Nat.le_of_ble_eq_true rfl) rfl ?_
      refine g_ldc X lkc_L_22 dL_tryBest_8 ?_
      have hf := Option.some.inj hf
      subst hf
      exact g_iret X hr dL_tryBest_10
    · have hf := oneg c886 hf
      cases hf
abbrev rmL_tryTry : Room := ({ frames := 8, cells := 2, slots := 12, locals := 138 } : Room)
def f_L_tryTry (v1 : TBv) (v2 : Fn) (v3 : SCv) (v13 : TAv) (p1 : Int32) (p2 : Int32) : Option (Int32 × SCv × TAv) :=
  (f_X7_bestArms v1 v2 v3 v13 p1 p2).bind (Sum.elim (fun q889 => some (q889.1, q889.2.1, q889.2.2)) (fun q889 => if q889.1 = 1 then some ((-9999002 : Int32), q889.2.1, q889.2.2) else none))
set_option maxRecDepth 100000 in
set_option maxHeartbeats 4000000 in
theorem c_L_tryTry (l : Launch) (D : va_G) (cy : Nat → ClassId) (ad : (Nat → Nat) × (Nat → Nat)) (h0 : Nat) (h1 : Nat) (h2 : Nat) (h3 : Nat) (h4 : Nat) (h5 : Nat) (h6 : Nat) (h7 : Nat) (h8 : Nat) (h9 : Nat) (a1 : Nat) (a2 : Nat) (a3 : Nat) (a4 : Nat) (v1 : TBv) (v2 : Fn) (v3 : SCv) (v13 : TAv) (p1 : Int32) (p2 : Int32) (hfl : l.stackTraces = false) {q : Int32 × SCv × TAv} (hf : f_L_tryTry v1 v2 v3 v13 p1 p2 = some q) : CMW l yL_tryTry cL_tryTry 4 (some .int) [(0, 6, 7, 20)] rmL_tryTry D cy ad [.ref h0, .int p1, .int p2] [FP h0 h1 h2 h3 h4 h5 h6 h7 h8 h9, TB cy h2 a1 a2 a3 v1, SU cy a2 a4 v2, SC a3 v3, TA h7 v13] (some (.int q.1)) [FP h0 h1 h2 h3 h4 h5 h6 h7 h8 h9, TB cy h2 a1 a2 a3 v1, SU cy a2 a4 v2, SC a3 q.2.1, TA h7 q.2.2] := by
  refine cmw_of (lv0 := [(0, .ref h0), (1, .int p1), (2, .int p2)]) (by decide) (Nat.le_of_ble_eq_true rfl) rfl ?_
  intro p e s m args below meth c A X hr htab
  have X : gK p s m args meth c A D cy ad cL_tryTry 4 RL := X
  unfold f_L_tryTry at hf
  refine g_aload_n X dL_tryTry_0 0 rfl rfl ?_
  refine g_iload_n X dL_tryTry_1 1 rfl rfl ?_
  refine g_iload_n X dL_tryTry_2 2 rfl rfl ?_
  obtain ⟨q889, hq889, hf⟩ := obind hf
  rcases q889 with q889 | q889
  · have hf := sinl hf
    refine g_xcallR (gs' := [FP h0 h1 h2 h3 h4 h5 h6 h7 h8 h9, TB cy h2 a1 a2 a3 v1, SU cy a2 a4 v2, SC a3 q889.2.1, TA h7 q889.2.2]) (rest := []) X dL_tryTry_3 (c_X7_bestArms l D cy ad h0 h1 h2 h3 h4 h5 h6 h7 h8 h9 a1 a2 a3 a4 v1 v2 v3 v13 p1 p2 hfl hq889) mf_X7_bestArms mv_X7_bestArms lkm_L_76 ⟨(Nat.le_of_ble_eq_true rfl), (Nat.le_of_ble_eq_true rfl), (Nat.le_of_ble_eq_true rfl), (Nat.le_of_ble_eq_true rfl)⟩ 0 0 rfl rfl rfl rfl [0, 1, 2, 3, 4] _ (by decide : [0, 1, 2, 3, 4].Perm (List.range 5)) rfl (by decide : [0, 1, 2, 3, 4].Perm (List.range 5)) rfl (Nat.le_of_ble_eq_true rfl) rfl ?_
    have hf := Option.some.inj hf
    subst hf
    exact g_iret X hr dL_tryTry_6
  · have hf := sinr hf
    by_cases c890 : q889.1 = 1
    · have hf := opos c890 hf
      refine g_xcallT (gs' := [FP h0 h1 h2 h3 h4 h5 h6 h7 h8 h9, TB cy h2 a1 a2 a3 v1, SU cy a2 a4 v2, SC a3 q889.2.1, TA h7 q889.2.2]) (rest := []) X dL_tryTry_3 (c_X7_bestArms l D cy ad h0 h1 h2 h3 h4 h5 h6 h7 h8 h9 a1 a2 a3 a4 v1 v2 v3 v13 p1 p2 hfl hq889) mf_X7_bestArms mv_X7_bestArms lkm_L_76 ⟨(Nat.le_of_ble_eq_true rfl), (Nat.le_of_ble_eq_true rfl), (Nat.le_of_ble_eq_true rfl), (Nat.le_of_ble_eq_true rfl)⟩ 0 0 rfl rfl rfl rfl [0, 1, 2, 3, 4] _ (by decide : [0, 1, 2, 3, 4].Perm (List.range 5)) rfl (by decide : [0, 1, 2, 3, 4].Perm (List.range 5)) rfl (Nat.le_of_ble_eq_true rfl) rfl ?_
      rw [c890]
      refine g_catch (k := 1) X htab [] ⟨0, 6, 7, 20⟩ [] rfl (fun z hz => absurd hz List.not_mem_nil) (by decide) (by decide) lkcl_20 (by decide) (fun q9 => ?_)
      refine g_astore_n (lv' := [(0, .ref h0), (1, .int p1), (2, .int p2), (3, .ref q9)]) X dL_tryTry_7 [1, 2, 3, 0] rfl (Nat.le_of_ble_eq_true rfl) rfl ?_
      refine g_ldc X lkc_L_22 dL_tryTry_8 ?_
      have hf := Option.some.inj hf
      subst hf
      exact g_iret X hr dL_tryTry_10
    · have hf := oneg c890 hf
      cases hf
abbrev rmL_tryKeep : Room := ({ frames := 7, cells := 1, slots := 6, locals := 112 } : Room)
def f_L_tryKeep (v1 : TBv) (v2 : Fn) (v7 : Int32) (v8 : TBv) (v9 : Fn) (v10 : Int32) (v11 : TBv) (v12 : Fn) (p1 : Int32) : Option (Int32 × Int32 × TBv × Fn × Int32 × TBv × Fn) :=
  (f_X7_save v1 v2 v7 v8 v9 v10 v11 v12 p1).bind (Sum.elim (fun q893 => some (q893.1, q893.2.1, q893.2.2.1, q893.2.2.2.1, q893.2.2.2.2.1, q893.2.2.2.2.2.1, q893.2.2.2.2.2.2)) (fun q893 => if q893.1 = 3 then some ((-9999001 : Int32), q893.2.1, q893.2.2.1, q893.2.2.2.1, q893.2.2.2.2.1, q893.2.2.2.2.2.1, q893.2.2.2.2.2.2) else none))
set_option maxRecDepth 100000 in
set_option maxHeartbeats 4000000 in
theorem c_L_tryKeep (l : Launch) (D : va_G) (cy : Nat → ClassId) (ad : (Nat → Nat) × (Nat → Nat)) (h0 : Nat) (h1 : Nat) (h2 : Nat) (h3 : Nat) (h4 : Nat) (h5 : Nat) (h6 : Nat) (h7 : Nat) (h8 : Nat) (h9 : Nat) (a1 : Nat) (a2 : Nat) (a3 : Nat) (a4 : Nat) (d1 : Nat) (d2 : Nat) (d3 : Nat) (d4 : Nat) (d5 : Nat) (e1 : Nat) (e2 : Nat) (e3 : Nat) (e4 : Nat) (e5 : Nat) (v1 : TBv) (v2 : Fn) (v7 : Int32) (v8 : TBv) (v9 : Fn) (v10 : Int32) (v11 : TBv) (v12 : Fn) (p1 : Int32) (hfl : l.stackTraces = false) {q : Int32 × Int32 × TBv × Fn × Int32 × TBv × Fn} (hf : f_L_tryKeep v1 v2 v7 v8 v9 v10 v11 v12 p1 = some q) : CMW l yL_tryKeep cL_tryKeep 3 (some .int) [(0, 5, 6, 13)] rmL_tryKeep D cy ad [.ref h0, .int p1] [FP h0 h1 h2 h3 h4 h5 h6 h7 h8 h9, TB cy h2 a1 a2 a3 v1, SU cy a2 a4 v2, SL h5 d1 v7, TB cy d1 d2 d3 d4 v8, SU cy d3 d5 v9, SL h6 e1 v10, TB cy e1 e2 e3 e4 v11, SU cy e3 e5 v12] (some (.int q.1)) [FP h0 h1 h2 h3 h4 h5 h6 h7 h8 h9, TB cy h2 a1 a2 a3 v1, SU cy a2 a4 v2, SL h5 d1 q.2.1, TB cy d1 d2 d3 d4 q.2.2.1, SU cy d3 d5 q.2.2.2.1, SL h6 e1 q.2.2.2.2.1, TB cy e1 e2 e3 e4 q.2.2.2.2.2.1, SU cy e3 e5 q.2.2.2.2.2.2] := by
  refine cmw_of (lv0 := [(0, .ref h0), (1, .int p1)]) (by decide) (Nat.le_of_ble_eq_true rfl) rfl ?_
  intro p e s m args below meth c A X hr htab
  have X : gK p s m args meth c A D cy ad cL_tryKeep 3 RL := X
  unfold f_L_tryKeep at hf
  refine g_aload_n X dL_tryKeep_0 0 rfl rfl ?_
  refine g_iload_n X dL_tryKeep_1 1 rfl rfl ?_
  obtain ⟨q893, hq893, hf⟩ := obind hf
  rcases q893 with q893 | q893
  · have hf := sinl hf
    refine g_xcallR (gs' := [FP h0 h1 h2 h3 h4 h5 h6 h7 h8 h9, TB cy h2 a1 a2 a3 v1, SU cy a2 a4 v2, SL h5 d1 q893.2.1, TB cy d1 d2 d3 d4 q893.2.2.1, SU cy d3 d5 q893.2.2.2.1, SL h6 e1 q893.2.2.2.2.1, TB cy e1 e2 e3 e4 q893.2.2.2.2.2.1, SU cy e3 e5 q893.2.2.2.2.2.2]) (rest := []) X dL_tryKeep_2 (c_X7_save l D cy ad h0 h1 h2 h3 h4 h5 h6 h7 h8 h9 a1 a2 a3 a4 d1 d2 d3 d4 d5 e1 e2 e3 e4 e5 v1 v2 v7 v8 v9 v10 v11 v12 p1 hfl hq893) mf_X7_save mv_X7_save lkm_L_79 ⟨(Nat.le_of_ble_eq_true rfl), (Nat.le_of_ble_eq_true rfl), (Nat.le_of_ble_eq_true rfl), (Nat.le_of_ble_eq_true rfl)⟩ 0 0 rfl rfl rfl rfl [0, 1, 2, 3, 4, 5, 6, 7, 8] _ (by decide : [0, 1, 2, 3, 4, 5, 6, 7, 8].Perm (List.range 9)) rfl (by decide : [0, 1, 2, 3, 4, 5, 6, 7, 8].Perm (List.range 9)) rfl (Nat.le_of_ble_eq_true rfl) rfl ?_
    have hf := Option.some.inj hf
    subst hf
    exact g_iret X hr dL_tryKeep_5
  · have hf := sinr hf
    by_cases c894 : q893.1 = 3
    · have hf := opos c894 hf
      refine g_xcallT (gs' := [FP h0 h1 h2 h3 h4 h5 h6 h7 h8 h9, TB cy h2 a1 a2 a3 v1, SU cy a2 a4 v2, SL h5 d1 q893.2.1, TB cy d1 d2 d3 d4 q893.2.2.1, SU cy d3 d5 q893.2.2.2.1, SL h6 e1 q893.2.2.2.2.1, TB cy e1 e2 e3 e4 q893.2.2.2.2.2.1, SU cy e3 e5 q893.2.2.2.2.2.2]) (rest := []) X dL_tryKeep_2 (c_X7_save l D cy ad h0 h1 h2 h3 h4 h5 h6 h7 h8 h9 a1 a2 a3 a4 d1 d2 d3 d4 d5 e1 e2 e3 e4 e5 v1 v2 v7 v8 v9 v10 v11 v12 p1 hfl hq893) mf_X7_save mv_X7_save lkm_L_79 ⟨(Nat.le_of_ble_eq_true rfl), (Nat.le_of_ble_eq_true rfl), (Nat.le_of_ble_eq_true rfl), (Nat.le_of_ble_eq_true rfl)⟩ 0 0 rfl rfl rfl rfl [0, 1, 2, 3, 4, 5, 6, 7, 8] _ (by decide : [0, 1, 2, 3, 4, 5, 6, 7, 8].Perm (List.range 9)) rfl (by decide : [0, 1, 2, 3, 4, 5, 6, 7, 8].Perm (List.range 9)) rfl (Nat.le_of_ble_eq_true rfl) rfl ?_
      rw [c894]
      refine g_catch (k := 3) X htab [] ⟨0, 5, 6, 13⟩ [] rfl (fun z hz => absurd hz List.not_mem_nil) (by decide) (by decide) lkcl_13 (by decide) (fun q9 => ?_)
      refine g_astore_n (lv' := [(0, .ref h0), (1, .int p1), (2, .ref q9)]) X dL_tryKeep_6 [1, 2, 0] rfl (Nat.le_of_ble_eq_true rfl) rfl ?_
      refine g_ldc X lkc_L_15 dL_tryKeep_7 ?_
      have hf := Option.some.inj hf
      subst hf
      exact g_iret X hr dL_tryKeep_9
    · have hf := oneg c894 hf
      cases hf
abbrev rmL_tryBack : Room := ({ frames := 7, cells := 1, slots := 6, locals := 112 } : Room)
def f_L_tryBack (v1 : TBv) (v2 : Fn) (vh : HIv) (v7 : Int32) (v8 : TBv) (v9 : Fn) (v10 : Int32) (v11 : TBv) (v12 : Fn) (p1 : Int32) : Option (Int32 × TBv × Fn × HIv) :=
  (f_X7_restore v1 v2 vh v7 v8 v9 v10 v11 v12 p1).bind (Sum.elim (fun q897 => some (q897.1, q897.2.1, q897.2.2.1, q897.2.2.2)) (fun q897 => if q897.1 = 3 then some ((-9999001 : Int32), q897.2.1, q897.2.2.1, q897.2.2.2) else if q897.1 = 2 then some ((-9999003 : Int32), q897.2.1, q897.2.2.1, q897.2.2.2) else none))
set_option maxRecDepth 100000 in
set_option maxHeartbeats 4000000 in
theorem c_L_tryBack (l : Launch) (D : va_G) (cy : Nat → ClassId) (ad : (Nat → Nat) × (Nat → Nat)) (h0 : Nat) (h1 : Nat) (h2 : Nat) (h3 : Nat) (h4 : Nat) (h5 : Nat) (h6 : Nat) (h7 : Nat) (h8 : Nat) (h9 : Nat) (a1 : Nat) (a2 : Nat) (a3 : Nat) (a4 : Nat) (r1 : Nat) (d1 : Nat) (d2 : Nat) (d3 : Nat) (d4 : Nat) (d5 : Nat) (e1 : Nat) (e2 : Nat) (e3 : Nat) (e4 : Nat) (e5 : Nat) (v1 : TBv) (v2 : Fn) (vh : HIv) (v7 : Int32) (v8 : TBv) (v9 : Fn) (v10 : Int32) (v11 : TBv) (v12 : Fn) (p1 : Int32) (hfl : l.stackTraces = false) {q : Int32 × TBv × Fn × HIv} (hf : f_L_tryBack v1 v2 vh v7 v8 v9 v10 v11 v12 p1 = some q) : CMW l yL_tryBack cL_tryBack 3 (some .int) [(0, 5, 6, 13), (0, 5, 10, 31)] rmL_tryBack D cy ad [.ref h0, .int p1] [FP h0 h1 h2 h3 h4 h5 h6 h7 h8 h9, TB cy h2 a1 a2 a3 v1, SU cy a2 a4 v2, HI h4 r1 vh, SL h5 d1 v7, TB cy d1 d2 d3 d4 v8, SU cy d3 d5 v9, SL h6 e1 v10, TB cy e1 e2 e3 e4 v11, SU cy e3 e5 v12] (some (.int q.1)) [FP h0 h1 h2 h3 h4 h5 h6 h7 h8 h9, TB cy h2 a1 a2 a3 q.2.1, SU cy a2 a4 q.2.2.1, HI h4 r1 q.2.2.2, SL h5 d1 v7, TB cy d1 d2 d3 d4 v8, SU cy d3 d5 v9, SL h6 e1 v10, TB cy e1 e2 e3 e4 v11, SU cy e3 e5 v12] := by
  refine cmw_of (lv0 := [(0, .ref h0), (1, .int p1)]) (by decide) (Nat.le_of_ble_eq_true rfl) rfl ?_
  intro p e s m args below meth c A X hr htab
  have X : gK p s m args meth c A D cy ad cL_tryBack 3 RL := X
  unfold f_L_tryBack at hf
  refine g_aload_n X dL_tryBack_0 0 rfl rfl ?_
  refine g_iload_n X dL_tryBack_1 1 rfl rfl ?_
  obtain ⟨q897, hq897, hf⟩ := obind hf
  rcases q897 with q897 | q897
  · have hf := sinl hf
    refine g_xcallR (gs' := [FP h0 h1 h2 h3 h4 h5 h6 h7 h8 h9, TB cy h2 a1 a2 a3 q897.2.1, SU cy a2 a4 q897.2.2.1, HI h4 r1 q897.2.2.2, SL h5 d1 v7, TB cy d1 d2 d3 d4 v8, SU cy d3 d5 v9, SL h6 e1 v10, TB cy e1 e2 e3 e4 v11, SU cy e3 e5 v12]) (rest := []) X dL_tryBack_2 (c_X7_restore l D cy ad h0 h1 h2 h3 h4 h5 h6 h7 h8 h9 a1 a2 a3 a4 r1 d1 d2 d3 d4 d5 e1 e2 e3 e4 e5 v1 v2 vh v7 v8 v9 v10 v11 v12 p1 hfl hq897) mf_X7_restore mv_X7_restore lkm_L_82 ⟨(Nat.le_of_ble_eq_true rfl), (Nat.le_of_ble_eq_true rfl), (Nat.le_of_ble_eq_true rfl), (Nat.le_of_ble_eq_true rfl)⟩ 0 0 rfl rfl rfl rfl [0, 1, 2, 3, 4, 5, 6, 7, 8, 9] _ (by decide : [0, 1, 2, 3, 4, 5, 6, 7, 8, 9].Perm (List.range 10)) rfl (by decide : [0, 1, 2, 3, 4, 5, 6, 7, 8, 9].Perm (List.range 10)) rfl (Nat.le_of_ble_eq_true rfl) rfl ?_
    have hf := Option.some.inj hf
    subst hf
    exact g_iret X hr dL_tryBack_5
  · have hf := sinr hf
    by_cases c898 : q897.1 = 3
    · have hf := opos c898 hf
      refine g_xcallT (gs' := [FP h0 h1 h2 h3 h4 h5 h6 h7 h8 h9, TB cy h2 a1 a2 a3 q897.2.1, SU cy a2 a4 q897.2.2.1, HI h4 r1 q897.2.2.2, SL h5 d1 v7, TB cy d1 d2 d3 d4 v8, SU cy d3 d5 v9, SL h6 e1 v10, TB cy e1 e2 e3 e4 v11, SU cy e3 e5 v12]) (rest := []) X dL_tryBack_2 (c_X7_restore l D cy ad h0 h1 h2 h3 h4 h5 h6 h7 h8 h9 a1 a2 a3 a4 r1 d1 d2 d3 d4 d5 e1 e2 e3 e4 e5 v1 v2 vh v7 v8 v9 v10 v11 v12 p1 hfl hq897) mf_X7_restore mv_X7_restore lkm_L_82 ⟨(Nat.le_of_ble_eq_true rfl), (Nat.le_of_ble_eq_true rfl), (Nat.le_of_ble_eq_true rfl), (Nat.le_of_ble_eq_true rfl)⟩ 0 0 rfl rfl rfl rfl [0, 1, 2, 3, 4, 5, 6, 7, 8, 9] _ (by decide : [0, 1, 2, 3, 4, 5, 6, 7, 8, 9].Perm (List.range 10)) rfl (by decide : [0, 1, 2, 3, 4, 5, 6, 7, 8, 9].Perm (List.range 10)) rfl (Nat.le_of_ble_eq_true rfl) rfl ?_
      rw [c898]
      refine g_catch (k := 3) X htab [] ⟨0, 5, 6, 13⟩ [⟨0, 5, 10, 31⟩] rfl (fun z hz => absurd hz List.not_mem_nil) (by decide) (by decide) lkcl_13 (by decide) (fun q9 => ?_)
      refine g_astore_n (lv' := [(0, .ref h0), (1, .int p1), (2, .ref q9)]) X dL_tryBack_6 [1, 2, 0] rfl (Nat.le_of_ble_eq_true rfl) rfl ?_
      refine g_ldc X lkc_L_15 dL_tryBack_7 ?_
      have hf := Option.some.inj hf
      subst hf
      exact g_iret X hr dL_tryBack_9
    · have hf := oneg c898 hf
      by_cases c899 : q897.1 = 2
      · have hf := opos c899 hf
        refine g_xcallT (gs' := [FP h0 h1 h2 h3 h4 h5 h6 h7 h8 h9, TB cy h2 a1 a2 a3 q897.2.1, SU cy a2 a4 q897.2.2.1, HI h4 r1 q897.2.2.2, SL h5 d1 v7, TB cy d1 d2 d3 d4 v8, SU cy d3 d5 v9, SL h6 e1 v10, TB cy e1 e2 e3 e4 v11, SU cy e3 e5 v12]) (rest := []) X dL_tryBack_2 (c_X7_restore l D cy ad h0 h1 h2 h3 h4 h5 h6 h7 h8 h9 a1 a2 a3 a4 r1 d1 d2 d3 d4 d5 e1 e2 e3 e4 e5 v1 v2 vh v7 v8 v9 v10 v11 v12 p1 hfl hq897) mf_X7_restore mv_X7_restore lkm_L_82 ⟨(Nat.le_of_ble_eq_true rfl), (Nat.le_of_ble_eq_true rfl), (Nat.le_of_ble_eq_true rfl), (Nat.le_of_ble_eq_true rfl)⟩ 0 0 rfl rfl rfl rfl [0, 1, 2, 3, 4, 5, 6, 7, 8, 9] _ (by decide : [0, 1, 2, 3, 4, 5, 6, 7, 8, 9].Perm (List.range 10)) rfl (by decide : [0, 1, 2, 3, 4, 5, 6, 7, 8, 9].Perm (List.range 10)) rfl (Nat.le_of_ble_eq_true rfl) rfl ?_
        rw [c899]
        refine g_catch (k := 2) X htab [⟨0, 5, 6, 13⟩] ⟨0, 5, 10, 31⟩ [] rfl (fun z hz => by cases List.mem_singleton.mp hz; exact ⟨by decide, _, lkcl_13, by decide⟩) (by decide) (by decide) lkcl_31 (by decide) (fun q9 => ?_)
        refine g_astore_n (lv' := [(0, .ref h0), (1, .int p1), (2, .ref q9)]) X dL_tryBack_10 [1, 2, 0] rfl (Nat.le_of_ble_eq_true rfl) rfl ?_
        refine g_ldc X lkc_L_33 dL_tryBack_11 ?_
        have hf := Option.some.inj hf
        subst hf
        exact g_iret X hr dL_tryBack_13
      · have hf := oneg c899 hf
        cases hf
abbrev rmL_accuses : Room := ({ frames := 7, cells := 1, slots := 6, locals := 112 } : Room)
def f_L_accuses (v0 : TXv) (v1 : TBv) (v2 : Fn) (v3 : SCv) (v4 : TBv) (v5 : Fn) (v6 : SCv) (vh : HIv) (vr : HRv) (v7 : Int32) (v8 : TBv) (v9 : Fn) (v10 : Int32) (v11 : TBv) (v12 : Fn) (v13 : TAv) (v14 : Fn) (v15 : Fn) (p1 : Int32) (p2 : Bool) : Option (Int32 × TBv × HIv × HRv) :=
  (f_X7_accuse v1 v2 vh vr p1 p2).bind (Sum.elim (fun q901 => some (q901.1, q901.2.1, q901.2.2.1, q901.2.2.2)) (fun q901 => if q901.1 = 3 then some ((-9999001 : Int32), q901.2.1, q901.2.2.1, q901.2.2.2) else none))
set_option maxRecDepth 100000 in
set_option maxHeartbeats 4000000 in
theorem c_L_accuses (l : Launch) (D : va_G) (cy : Nat → ClassId) (ad : (Nat → Nat) × (Nat → Nat)) (h0 : Nat) (h1 : Nat) (h2 : Nat) (h3 : Nat) (h4 : Nat) (h5 : Nat) (h6 : Nat) (h7 : Nat) (h8 : Nat) (h9 : Nat) (t1 : Nat) (a1 : Nat) (a2 : Nat) (a3 : Nat) (a4 : Nat) (b1 : Nat) (b2 : Nat) (b3 : Nat) (b4 : Nat) (r1 : Nat) (ta : TAd) (d1 : Nat) (d2 : Nat) (d3 : Nat) (d4 : Nat) (d5 : Nat) (e1 : Nat) (e2 : Nat) (e3 : Nat) (e4 : Nat) (e5 : Nat) (v0 : TXv) (v1 : TBv) (v2 : Fn) (v3 : SCv) (v4 : TBv) (v5 : Fn) (v6 : SCv) (vh : HIv) (vr : HRv) (v7 : Int32) (v8 : TBv) (v9 : Fn) (v10 : Int32) (v11 : TBv) (v12 : Fn) (v13 : TAv) (v14 : Fn) (v15 : Fn) (p1 : Int32) (p2 : Bool) (hfl : l.stackTraces = false) {q : Int32 × TBv × HIv × HRv} (hf : f_L_accuses v0 v1 v2 v3 v4 v5 v6 vh vr v7 v8 v9 v10 v11 v12 v13 v14 v15 p1 p2 = some q) : CMW l yL_accuses cL_accuses 4 (some .int) [(0, 6, 7, 13)] rmL_accuses D cy ad [.ref h0, .int p1, .int (b2i p2)] [FP h0 h1 h2 h3 h4 h5 h6 h7 h8 h9, TX cy h1 t1 v0, TB cy h2 a1 a2 a3 v1, SU cy a2 a4 v2, SC a3 v3, TB cy h3 b1 b2 b3 v4, SU cy b2 b4 v5, SC b3 v6, HI h4 r1 vh, HR cy r1 ta vr, SL h5 d1 v7, TB cy d1 d2 d3 d4 v8, SU cy d3 d5 v9, SL h6 e1 v10, TB cy e1 e2 e3 e4 v11, SU cy e3 e5 v12, TA h7 v13, AI cy 12 h8 v14, AI cy 66 h9 v15] (some (.int q.1)) [FP h0 h1 h2 h3 h4 h5 h6 h7 h8 h9, TX cy h1 t1 v0, TB cy h2 a1 a2 a3 q.2.1, SU cy a2 a4 v2, SC a3 v3, TB cy h3 b1 b2 b3 v4, SU cy b2 b4 v5, SC b3 v6, HI h4 r1 q.2.2.1, HR cy r1 ta q.2.2.2, SL h5 d1 v7, TB cy d1 d2 d3 d4 v8, SU cy d3 d5 v9, SL h6 e1 v10, TB cy e1 e2 e3 e4 v11, SU cy e3 e5 v12, TA h7 v13, AI cy 12 h8 v14, AI cy 66 h9 v15] := by
  refine cmw_of (lv0 := [(0, .ref h0), (1, .int p1), (2, .int (b2i p2))]) (by decide) (Nat.le_of_ble_eq_true rfl) rfl ?_
  intro p e s m args below meth c A X hr htab
  have X : gK p s m args meth c A D cy ad cL_accuses 4 RL := X
  unfold f_L_accuses at hf
  refine g_aload_n X dL_accuses_0 0 rfl rfl ?_
  refine g_iload_n X dL_accuses_1 1 rfl rfl ?_
  refine g_iload_n X dL_accuses_2 2 rfl rfl ?_
  obtain ⟨q901, hq901, hf⟩ := obind hf
  rcases q901 with q901 | q901
  · have hf := sinl hf
    refine g_xcallR (gs' := [FP h0 h1 h2 h3 h4 h5 h6 h7 h8 h9, TX cy h1 t1 v0, TB cy h2 a1 a2 a3 q901.2.1, SU cy a2 a4 v2, SC a3 v3, TB cy h3 b1 b2 b3 v4, SU cy b2 b4 v5, SC b3 v6, HI h4 r1 q901.2.2.1, HR cy r1 ta q901.2.2.2, SL h5 d1 v7, TB cy d1 d2 d3 d4 v8, SU cy d3 d5 v9, SL h6 e1 v10, TB cy e1 e2 e3 e4 v11, SU cy e3 e5 v12, TA h7 v13, AI cy 12 h8 v14, AI cy 66 h9 v15]) (rest := []) X dL_accuses_3 (c_X7_accuse l D cy ad h0 h1 h2 h3 h4 h5 h6 h7 h8 h9 a1 a2 a3 a4 r1 ta v1 v2 vh vr p1 p2 hfl hq901) mf_X7_accuse mv_X7_accuse lkm_L_7 ⟨(Nat.le_of_ble_eq_true rfl), (Nat.le_of_ble_eq_true rfl), (Nat.le_of_ble_eq_true rfl), (Nat.le_of_ble_eq_true rfl)⟩ 0 0 rfl rfl rfl rfl [0, 2, 3, 8, 9, 1, 4, 5, 6, 7, 10, 11, 12, 13, 14, 15, 16, 17, 18] _ (by decide : [0, 2, 3, 8, 9, 1, 4, 5, 6, 7, 10, 11, 12, 13, 14, 15, 16, 17, 18].Perm (List.range 19)) rfl (by decide : [0, 2, 3, 8, 9, 1, 4, 5, 6, 7, 10, 11, 12, 13, 14, 15, 16, 17, 18].Perm (List.range 19)) rfl (Nat.le_of_ble_eq_true rfl) rfl ?_
    have hf := Option.some.inj hf
    subst hf
    exact g_iret X hr dL_accuses_6
  · have hf := sinr hf
    by_cases c902 : q901.1 = 3
    · have hf := opos c902 hf
      refine g_xcallT (gs' := [FP h0 h1 h2 h3 h4 h5 h6 h7 h8 h9, TX cy h1 t1 v0, TB cy h2 a1 a2 a3 q901.2.1, SU cy a2 a4 v2, SC a3 v3, TB cy h3 b1 b2 b3 v4, SU cy b2 b4 v5, SC b3 v6, HI h4 r1 q901.2.2.1, HR cy r1 ta q901.2.2.2, SL h5 d1 v7, TB cy d1 d2 d3 d4 v8, SU cy d3 d5 v9, SL h6 e1 v10, TB cy e1 e2 e3 e4 v11, SU cy e3 e5 v12, TA h7 v13, AI cy 12 h8 v14, AI cy 66 h9 v15]) (rest := []) X dL_accuses_3 (c_X7_accuse l D cy ad h0 h1 h2 h3 h4 h5 h6 h7 h8 h9 a1 a2 a3 a4 r1 ta v1 v2 vh vr p1 p2 hfl hq901) mf_X7_accuse mv_X7_accuse lkm_L_7 ⟨(Nat.le_of_ble_eq_true rfl), (Nat.le_of_ble_eq_true rfl), (Nat.le_of_ble_eq_true rfl), (Nat.le_of_ble_eq_true rfl)⟩ 0 0 rfl rfl rfl rfl [0, 2, 3, 8, 9, 1, 4, 5, 6, 7, 10, 11, 12, 13, 14, 15, 16, 17, 18] _ (by decide : [0, 2, 3, 8, 9, 1, 4, 5, 6, 7, 10, 11, 12, 13, 14, 15, 16, 17, 18].Perm (List.range 19)) rfl (by decide : [0, 2, 3, 8, 9, 1, 4, 5, 6, 7, 10, 11, 12, 13, 14, 15, 16, 17, 18].Perm (List.range 19)) rfl (Nat.le_of_ble_eq_true rfl) rfl ?_
      rw [c902]
      refine g_catch (k := 3) X htab [] ⟨0, 6, 7, 13⟩ [] rfl (fun z hz => absurd hz List.not_mem_nil) (by decide) (by decide) lkcl_13 (by decide) (fun q9 => ?_)
      refine g_astore_n (lv' := [(0, .ref h0), (1, .int p1), (2, .int (b2i p2)), (3, .ref q9)]) X dL_accuses_7 [1, 2, 3, 0] rfl (Nat.le_of_ble_eq_true rfl) rfl ?_
      refine g_ldc X lkc_L_15 dL_accuses_8 ?_
      have hf := Option.some.inj hf
      subst hf
      exact g_iret X hr dL_accuses_10
    · have hf := oneg c902 hf
      cases hf
abbrev rmL_doScript : Room := ({ frames := 7, cells := 1, slots := 6, locals := 144 } : Room)
def f_L_doScript (v0 : TXv) (v1 : TBv) (v2 : Fn) (v3 : SCv) (v4 : TBv) (v5 : Fn) (v6 : SCv) (vh : HIv) (vr : HRv) (v7 : Int32) (v8 : TBv) (v9 : Fn) (v10 : Int32) (v11 : TBv) (v12 : Fn) (v13 : TAv) (v14 : Fn) (v15 : Fn) (p1 : Int32) (p2 : Int64) : Option (Int32 × TBv × Fn × SCv) :=
  (f_X7_runScript v1 v2 v4 v5 v6 p1 p2).bind (Sum.elim (fun q904 => some (q904.1, q904.2.1, q904.2.2.1, q904.2.2.2)) (fun q904 => if q904.1 = 1 then some ((-9999002 : Int32), q904.2.1, q904.2.2.1, q904.2.2.2) else none))
set_option maxRecDepth 100000 in
set_option maxHeartbeats 4000000 in
theorem c_L_doScript (l : Launch) (D : va_G) (cy : Nat → ClassId) (ad : (Nat → Nat) × (Nat → Nat)) (h0 : Nat) (h1 : Nat) (h2 : Nat) (h3 : Nat) (h4 : Nat) (h5 : Nat) (h6 : Nat) (h7 : Nat) (h8 : Nat) (h9 : Nat) (t1 : Nat) (a1 : Nat) (a2 : Nat) (a3 : Nat) (a4 : Nat) (b1 : Nat) (b2 : Nat) (b3 : Nat) (b4 : Nat) (r1 : Nat) (ta : TAd) (d1 : Nat) (d2 : Nat) (d3 : Nat) (d4 : Nat) (d5 : Nat) (e1 : Nat) (e2 : Nat) (e3 : Nat) (e4 : Nat) (e5 : Nat) (v0 : TXv) (v1 : TBv) (v2 : Fn) (v3 : SCv) (v4 : TBv) (v5 : Fn) (v6 : SCv) (vh : HIv) (vr : HRv) (v7 : Int32) (v8 : TBv) (v9 : Fn) (v10 : Int32) (v11 : TBv) (v12 : Fn) (v13 : TAv) (v14 : Fn) (v15 : Fn) (p1 : Int32) (p2 : Int64) (hfl : l.stackTraces = false) {q : Int32 × TBv × Fn × SCv} (hf : f_L_doScript v0 v1 v2 v3 v4 v5 v6 vh vr v7 v8 v9 v10 v11 v12 v13 v14 v15 p1 p2 = some q) : CMW l yL_doScript cL_doScript 5 (some .int) [(0, 6, 7, 20)] rmL_doScript D cy ad [.ref h0, .int p1, .long p2] [FP h0 h1 h2 h3 h4 h5 h6 h7 h8 h9, TX cy h1 t1 v0, TB cy h2 a1 a2 a3 v1, SU cy a2 a4 v2, SC a3 v3, TB cy h3 b1 b2 b3 v4, SU cy b2 b4 v5, SC b3 v6, HI h4 r1 vh, HR cy r1 ta vr, SL h5 d1 v7, TB cy d1 d2 d3 d4 v8, SU cy d3 d5 v9, SL h6 e1 v10, TB cy e1 e2 e3 e4 v11, SU cy e3 e5 v12, TA h7 v13, AI cy 12 h8 v14, AI cy 66 h9 v15] (some (.int q.1)) [FP h0 h1 h2 h3 h4 h5 h6 h7 h8 h9, TX cy h1 t1 v0, TB cy h2 a1 a2 a3 v1, SU cy a2 a4 v2, SC a3 v3, TB cy h3 b1 b2 b3 q.2.1, SU cy b2 b4 q.2.2.1, SC b3 q.2.2.2, HI h4 r1 vh, HR cy r1 ta vr, SL h5 d1 v7, TB cy d1 d2 d3 d4 v8, SU cy d3 d5 v9, SL h6 e1 v10, TB cy e1 e2 e3 e4 v11, SU cy e3 e5 v12, TA h7 v13, AI cy 12 h8 v14, AI cy 66 h9 v15] := by
  refine cmw_of (lv0 := [(0, .ref h0), (1, .int p1), (2, .long p2)]) (by decide) (Nat.le_of_ble_eq_true rfl) rfl ?_
  intro p e s m args below meth c A X hr htab
  have X : gK p s m args meth c A D cy ad cL_doScript 5 RL := X
  unfold f_L_doScript at hf
  refine g_aload_n X dL_doScript_0 0 rfl rfl ?_
  refine g_iload_n X dL_doScript_1 1 rfl rfl ?_
  refine g_lload_n X dL_doScript_2 2 rfl rfl ?_
  obtain ⟨q904, hq904, hf⟩ := obind hf
  rcases q904 with q904 | q904
  · have hf := sinl hf
    refine g_xcallR (gs' := [FP h0 h1 h2 h3 h4 h5 h6 h7 h8 h9, TX cy h1 t1 v0, TB cy h2 a1 a2 a3 v1, SU cy a2 a4 v2, SC a3 v3, TB cy h3 b1 b2 b3 q904.2.1, SU cy b2 b4 q904.2.2.1, SC b3 q904.2.2.2, HI h4 r1 vh, HR cy r1 ta vr, SL h5 d1 v7, TB cy d1 d2 d3 d4 v8, SU cy d3 d5 v9, SL h6 e1 v10, TB cy e1 e2 e3 e4 v11, SU cy e3 e5 v12, TA h7 v13, AI cy 12 h8 v14, AI cy 66 h9 v15]) (rest := []) X dL_doScript_3 (c_X7_runScript l D cy ad h0 h1 h2 h3 h4 h5 h6 h7 h8 h9 a1 a2 a3 a4 b1 b2 b3 b4 v1 v2 v4 v5 v6 p1 p2 hfl hq904) mf_X7_runScript mv_X7_runScript lkm_L_16 ⟨(Nat.le_of_ble_eq_true rfl), (Nat.le_of_ble_eq_true rfl), (Nat.le_of_ble_eq_true rfl), (Nat.le_of_ble_eq_true rfl)⟩ 0 0 rfl rfl rfl rfl [0, 2, 3, 5, 6, 7, 1, 4, 8, 9, 10, 11, 12, 13, 14, 15, 16, 17, 18] _ (by decide : [0, 2, 3, 5, 6, 7, 1, 4, 8, 9, 10, 11, 12, 13, 14, 15, 16, 17, 18].Perm (List.range 19)) rfl (by decide : [0, 2, 3, 5, 6, 7, 1, 4, 8, 9, 10, 11, 12, 13, 14, 15, 16, 17, 18].Perm (List.range 19)) rfl (Nat.le_of_ble_eq_true rfl) rfl ?_
    have hf := Option.some.inj hf
    subst hf
    exact g_iret X hr dL_doScript_6
  · have hf := sinr hf
    by_cases c905 : q904.1 = 1
    · have hf := opos c905 hf
      refine g_xcallT (gs' := [FP h0 h1 h2 h3 h4 h5 h6 h7 h8 h9, TX cy h1 t1 v0, TB cy h2 a1 a2 a3 v1, SU cy a2 a4 v2, SC a3 v3, TB cy h3 b1 b2 b3 q904.2.1, SU cy b2 b4 q904.2.2.1, SC b3 q904.2.2.2, HI h4 r1 vh, HR cy r1 ta vr, SL h5 d1 v7, TB cy d1 d2 d3 d4 v8, SU cy d3 d5 v9, SL h6 e1 v10, TB cy e1 e2 e3 e4 v11, SU cy e3 e5 v12, TA h7 v13, AI cy 12 h8 v14, AI cy 66 h9 v15]) (rest := []) X dL_doScript_3 (c_X7_runScript l D cy ad h0 h1 h2 h3 h4 h5 h6 h7 h8 h9 a1 a2 a3 a4 b1 b2 b3 b4 v1 v2 v4 v5 v6 p1 p2 hfl hq904) mf_X7_runScript mv_X7_runScript lkm_L_16 ⟨(Nat.le_of_ble_eq_true rfl), (Nat.le_of_ble_eq_true rfl), (Nat.le_of_ble_eq_true rfl), (Nat.le_of_ble_eq_true rfl)⟩ 0 0 rfl rfl rfl rfl [0, 2, 3, 5, 6, 7, 1, 4, 8, 9, 10, 11, 12, 13, 14, 15, 16, 17, 18] _ (by decide : [0, 2, 3, 5, 6, 7, 1, 4, 8, 9, 10, 11, 12, 13, 14, 15, 16, 17, 18].Perm (List.range 19)) rfl (by decide : [0, 2, 3, 5, 6, 7, 1, 4, 8, 9, 10, 11, 12, 13, 14, 15, 16, 17, 18].Perm (List.range 19)) rfl (Nat.le_of_ble_eq_true rfl) rfl ?_
      rw [c905]
      refine g_catch (k := 1) X htab [] ⟨0, 6, 7, 20⟩ [] rfl (fun z hz => absurd hz List.not_mem_nil) (by decide) (by decide) lkcl_20 (by decide) (fun q9 => ?_)
      refine g_astore (lv' := [(0, .ref h0), (1, .int p1), (2, .long p2), (4, .ref q9)]) X dL_doScript_7 [1, 2, 3, 0] (Nat.le_of_ble_eq_true rfl) rfl ?_
      refine g_ldc X lkc_L_22 dL_doScript_9 ?_
      have hf := Option.some.inj hf
      subst hf
      exact g_iret X hr dL_doScript_11
    · have hf := oneg c905 hf
      cases hf
abbrev rmL_doSimulate : Room := ({ frames := 7, cells := 1, slots := 6, locals := 125 } : Room)
def f_L_doSimulate (v0 : TXv) (v1 : TBv) (v2 : Fn) (v3 : SCv) (v4 : TBv) (v5 : Fn) (v6 : SCv) (vh : HIv) (vr : HRv) (v7 : Int32) (v8 : TBv) (v9 : Fn) (v10 : Int32) (v11 : TBv) (v12 : Fn) (v13 : TAv) (v14 : Fn) (v15 : Fn) (p1 : Int64) (p2 : Int32) : Option (Int32 × TBv × Fn × SCv) :=
  (f_X7_simulate v1 v2 v4 v5 v6 p1 p2).bind (Sum.elim (fun q907 => some (q907.1, q907.2.1, q907.2.2.1, q907.2.2.2)) (fun q907 => if q907.1 = 1 then some ((-9999002 : Int32), q907.2.1, q907.2.2.1, q907.2.2.2) else none))
set_option maxRecDepth 100000 in
set_option maxHeartbeats 4000000 in
theorem c_L_doSimulate (l : Launch) (D : va_G) (cy : Nat → ClassId) (ad : (Nat → Nat) × (Nat → Nat)) (h0 : Nat) (h1 : Nat) (h2 : Nat) (h3 : Nat) (h4 : Nat) (h5 : Nat) (h6 : Nat) (h7 : Nat) (h8 : Nat) (h9 : Nat) (t1 : Nat) (a1 : Nat) (a2 : Nat) (a3 : Nat) (a4 : Nat) (b1 : Nat) (b2 : Nat) (b3 : Nat) (b4 : Nat) (r1 : Nat) (ta : TAd) (d1 : Nat) (d2 : Nat) (d3 : Nat) (d4 : Nat) (d5 : Nat) (e1 : Nat) (e2 : Nat) (e3 : Nat) (e4 : Nat) (e5 : Nat) (v0 : TXv) (v1 : TBv) (v2 : Fn) (v3 : SCv) (v4 : TBv) (v5 : Fn) (v6 : SCv) (vh : HIv) (vr : HRv) (v7 : Int32) (v8 : TBv) (v9 : Fn) (v10 : Int32) (v11 : TBv) (v12 : Fn) (v13 : TAv) (v14 : Fn) (v15 : Fn) (p1 : Int64) (p2 : Int32) (hfl : l.stackTraces = false) {q : Int32 × TBv × Fn × SCv} (hf : f_L_doSimulate v0 v1 v2 v3 v4 v5 v6 vh vr v7 v8 v9 v10 v11 v12 v13 v14 v15 p1 p2 = some q) : CMW l yL_doSimulate cL_doSimulate 5 (some .int) [(0, 6, 7, 20)] rmL_doSimulate D cy ad [.ref h0, .long p1, .int p2] [FP h0 h1 h2 h3 h4 h5 h6 h7 h8 h9, TX cy h1 t1 v0, TB cy h2 a1 a2 a3 v1, SU cy a2 a4 v2, SC a3 v3, TB cy h3 b1 b2 b3 v4, SU cy b2 b4 v5, SC b3 v6, HI h4 r1 vh, HR cy r1 ta vr, SL h5 d1 v7, TB cy d1 d2 d3 d4 v8, SU cy d3 d5 v9, SL h6 e1 v10, TB cy e1 e2 e3 e4 v11, SU cy e3 e5 v12, TA h7 v13, AI cy 12 h8 v14, AI cy 66 h9 v15] (some (.int q.1)) [FP h0 h1 h2 h3 h4 h5 h6 h7 h8 h9, TX cy h1 t1 v0, TB cy h2 a1 a2 a3 v1, SU cy a2 a4 v2, SC a3 v3, TB cy h3 b1 b2 b3 q.2.1, SU cy b2 b4 q.2.2.1, SC b3 q.2.2.2, HI h4 r1 vh, HR cy r1 ta vr, SL h5 d1 v7, TB cy d1 d2 d3 d4 v8, SU cy d3 d5 v9, SL h6 e1 v10, TB cy e1 e2 e3 e4 v11, SU cy e3 e5 v12, TA h7 v13, AI cy 12 h8 v14, AI cy 66 h9 v15] := by
  refine cmw_of (lv0 := [(0, .ref h0), (1, .long p1), (3, .int p2)]) (by decide) (Nat.le_of_ble_eq_true rfl) rfl ?_
  intro p e s m args below meth c A X hr htab
  have X : gK p s m args meth c A D cy ad cL_doSimulate 5 RL := X
  unfold f_L_doSimulate at hf
  refine g_aload_n X dL_doSimulate_0 0 rfl rfl ?_
  refine g_lload_n X dL_doSimulate_1 1 rfl rfl ?_
  refine g_iload_n X dL_doSimulate_2 2 rfl rfl ?_
  obtain ⟨q907, hq907, hf⟩ := obind hf
  rcases q907 with q907 | q907
  · have hf := sinl hf
    refine g_xcallR (gs' := [FP h0 h1 h2 h3 h4 h5 h6 h7 h8 h9, TX cy h1 t1 v0, TB cy h2 a1 a2 a3 v1, SU cy a2 a4 v2, SC a3 v3, TB cy h3 b1 b2 b3 q907.2.1, SU cy b2 b4 q907.2.2.1, SC b3 q907.2.2.2, HI h4 r1 vh, HR cy r1 ta vr, SL h5 d1 v7, TB cy d1 d2 d3 d4 v8, SU cy d3 d5 v9, SL h6 e1 v10, TB cy e1 e2 e3 e4 v11, SU cy e3 e5 v12, TA h7 v13, AI cy 12 h8 v14, AI cy 66 h9 v15]) (rest := []) X dL_doSimulate_3 (c_X7_simulate l D cy ad h0 h1 h2 h3 h4 h5 h6 h7 h8 h9 a1 a2 a3 a4 b1 b2 b3 b4 v1 v2 v4 v5 v6 p1 p2 hfl hq907) mf_X7_simulate mv_X7_simulate lkm_L_23 ⟨(Nat.le_of_ble_eq_true rfl), (Nat.le_of_ble_eq_true rfl), (Nat.le_of_ble_eq_true rfl), (Nat.le_of_ble_eq_true rfl)⟩ 0 0 rfl rfl rfl rfl [0, 2, 3, 5, 6, 7, 1, 4, 8, 9, 10, 11, 12, 13, 14, 15, 16, 17, 18] _ (by decide : [0, 2, 3, 5, 6, 7, 1, 4, 8, 9, 10, 11, 12, 13, 14, 15, 16, 17, 18].Perm (List.range 19)) rfl (by decide : [0, 2, 3, 5, 6, 7, 1, 4, 8, 9, 10, 11, 12, 13, 14, 15, 16, 17, 18].Perm (List.range 19)) rfl (Nat.le_of_ble_eq_true rfl) rfl ?_
    have hf := Option.some.inj hf
    subst hf
    exact g_iret X hr dL_doSimulate_6
  · have hf := sinr hf
    by_cases c908 : q907.1 = 1
    · have hf := opos c908 hf
      refine g_xcallT (gs' := [FP h0 h1 h2 h3 h4 h5 h6 h7 h8 h9, TX cy h1 t1 v0, TB cy h2 a1 a2 a3 v1, SU cy a2 a4 v2, SC a3 v3, TB cy h3 b1 b2 b3 q907.2.1, SU cy b2 b4 q907.2.2.1, SC b3 q907.2.2.2, HI h4 r1 vh, HR cy r1 ta vr, SL h5 d1 v7, TB cy d1 d2 d3 d4 v8, SU cy d3 d5 v9, SL h6 e1 v10, TB cy e1 e2 e3 e4 v11, SU cy e3 e5 v12, TA h7 v13, AI cy 12 h8 v14, AI cy 66 h9 v15]) (rest := []) X dL_doSimulate_3 (c_X7_simulate l D cy ad h0 h1 h2 h3 h4 h5 h6 h7 h8 h9 a1 a2 a3 a4 b1 b2 b3 b4 v1 v2 v4 v5 v6 p1 p2 hfl hq907) mf_X7_simulate mv_X7_simulate lkm_L_23 ⟨(Nat.le_of_ble_eq_true rfl), (Nat.le_of_ble_eq_true rfl), (Nat.le_of_ble_eq_true rfl), (Nat.le_of_ble_eq_true rfl)⟩ 0 0 rfl rfl rfl rfl [0, 2, 3, 5, 6, 7, 1, 4, 8, 9, 10, 11, 12, 13, 14, 15, 16, 17, 18] _ (by decide : [0, 2, 3, 5, 6, 7, 1, 4, 8, 9, 10, 11, 12, 13, 14, 15, 16, 17, 18].Perm (List.range 19)) rfl (by decide : [0, 2, 3, 5, 6, 7, 1, 4, 8, 9, 10, 11, 12, 13, 14, 15, 16, 17, 18].Perm (List.range 19)) rfl (Nat.le_of_ble_eq_true rfl) rfl ?_
      rw [c908]
      refine g_catch (k := 1) X htab [] ⟨0, 6, 7, 20⟩ [] rfl (fun z hz => absurd hz List.not_mem_nil) (by decide) (by decide) lkcl_20 (by decide) (fun q9 => ?_)
      refine g_astore (lv' := [(0, .ref h0), (1, .long p1), (3, .int p2), (4, .ref q9)]) X dL_doSimulate_7 [1, 2, 3, 0] (Nat.le_of_ble_eq_true rfl) rfl ?_
      refine g_ldc X lkc_L_22 dL_doSimulate_9 ?_
      have hf := Option.some.inj hf
      subst hf
      exact g_iret X hr dL_doSimulate_11
    · have hf := oneg c908 hf
      cases hf
abbrev rmL_call : Room := ({ frames := 9, cells := 2, slots := 12, locals := 161 } : Room)
def f_L_call (v0 : TXv) (v1 : TBv) (v2 : Fn) (v3 : SCv) (v4 : TBv) (v5 : Fn) (v6 : SCv) (vh : HIv) (vr : HRv) (v7 : Int32) (v8 : TBv) (v9 : Fn) (v10 : Int32) (v11 : TBv) (v12 : Fn) (v13 : TAv) (v14 : Fn) (v15 : Fn) (p1 : Int32) (p2 : Int32) (p3 : Int32) (p4 : Int32) : Option (Int32 × TXv × TBv × Fn × SCv × HIv × HRv × Int32 × TBv × Fn × Int32 × TBv × Fn × TAv) :=
  if p1 = (0 : Int32) then (f_L_tryAppend v0 p2).bind (fun q956 => some (q956.1, q956.2, v1, v2, v3, vh, vr, v7, v8, v9, v10, v11, v12, v13)) else if p1 = (1 : Int32) then none else if p1 = (2 : Int32) then (f_L_tryAbout v1 v2 p2).bind (fun q955 => some (q955, v0, v1, v2, v3, vh, vr, v7, v8, v9, v10, v11, v12, v13)) else if p1 = (3 : Int32) then (f_L_tryCoin v1 v2 p2).bind (fun q954 => some (q954, v0, v1, v2, v3, vh, vr, v7, v8, v9, v10, v11, v12, v13)) else if p1 = (4 : Int32) then (f_L_tryIs v1 v2 p2).bind (fun q953 => some (q953, v0, v1, v2, v3, vh, vr, v7, v8, v9, v10, v11, v12, v13)) else if p1 = (5 : Int32) then (f_L_tryTold v1 p2 p3).bind (fun q952 => some (q952, v0, v1, v2, v3, vh, vr, v7, v8, v9, v10, v11, v12, v13)) else if p1 = (6 : Int32) then (f_L_tryHide v1 v2 vh vr p2 p3).bind (fun q951 => some (q951.1, v0, q951.2.1, q951.2.2.1, v3, q951.2.2.2.1, q951.2.2.2.2, v7, v8, v9, v10, v11, v12, v13)) else if p1 = (7 : Int32) then (f_L_tryArms v1 v2 vh vr p2 p3).bind (fun q950 => some (q950.1, v0, q950.2.1, v2, v3, q950.2.2.1, q950.2.2.2, v7, v8, v9, v10, v11, v12, v13)) else if p1 = (8 : Int32) then (f_L_tryWeigh v1 v2 v3 vh vr p2 p3).bind (fun q949 => some (q949.1, v0, q949.2.1, q949.2.2.1, q949.2.2.2.1, q949.2.2.2.2.1, q949.2.2.2.2.2, v7, v8, v9, v10, v11, v12, v13)) else if p1 = (9 : Int32) then (f_L_tryPan v1 v2 vh vr p2).bind (fun q948 => some (q948.1, v0, q948.2.1, v2, v3, q948.2.2.1, q948.2.2.2, v7, v8, v9, v10, v11, v12, v13)) else if p1 = (10 : Int32) then (f_L_tryForget v1 v2 v3 vh vr).bind (fun q947 => some (q947.1, v0, q947.2.1, q947.2.2.1, q947.2.2.2.1, q947.2.2.2.2.1, q947.2.2.2.2.2, v7, v8, v9, v10, v11, v12, v13)) else if p1 = (11 : Int32) then (f_L_tryUndo v1 v2 vh vr).bind (fun q946 => some (q946.1, v0, q946.2.1, q946.2.2.1, v3, q946.2.2.2, vr, v7, v8, v9, v10, v11, v12, v13)) else if p1 = (12 : Int32) then (f_L_tryLeaves v1 v2 v3 v13 p2 p3 p4).bind (fun q945 => some (q945.1, v0, v1, v2, q945.2.1, vh, vr, v7, v8, v9, v10, v11, v12, q945.2.2)) else if p1 = (13 : Int32) then (f_L_tryBest v1 v2 v3 v13 v14 v15 p2 p3).bind (fun q944 => some (q944.1, v0, v1, v2, q944.2.1, vh, vr, v7, v8, v9, v10, v11, v12, q944.2.2)) else if p1 = (14 : Int32) then (f_L_tryTry v1 v2 v3 v13 p2 p3).bind (fun q943 => some (q943.1, v0, v1, v2, q943.2.1, vh, vr, v7, v8, v9, v10, v11, v12, q943.2.2)) else if p1 = (15 : Int32) then (f_L_tryKeep v1 v2 v7 v8 v9 v10 v11 v12 p2).bind (fun q942 => some (q942.1, v0, v1, v2, v3, vh, vr, q942.2.1, q942.2.2.1, q942.2.2.2.1, q942.2.2.2.2.1, q942.2.2.2.2.2.1, q942.2.2.2.2.2.2, v13)) else (f_L_tryBack v1 v2 vh v7 v8 v9 v10 v11 v12 p2).bind (fun q925 => some (q925.1, v0, q925.2.1, q925.2.2.1, v3, q925.2.2.2, vr, v7, v8, v9, v10, v11, v12, v13))
set_option maxRecDepth 100000 in
set_option maxHeartbeats 4000000 in
theorem c_L_call (l : Launch) (D : va_G) (cy : Nat → ClassId) (ad : (Nat → Nat) × (Nat → Nat)) (h0 : Nat) (h1 : Nat) (h2 : Nat) (h3 : Nat) (h4 : Nat) (h5 : Nat) (h6 : Nat) (h7 : Nat) (h8 : Nat) (h9 : Nat) (t1 : Nat) (a1 : Nat) (a2 : Nat) (a3 : Nat) (a4 : Nat) (b1 : Nat) (b2 : Nat) (b3 : Nat) (b4 : Nat) (r1 : Nat) (ta : TAd) (d1 : Nat) (d2 : Nat) (d3 : Nat) (d4 : Nat) (d5 : Nat) (e1 : Nat) (e2 : Nat) (e3 : Nat) (e4 : Nat) (e5 : Nat) (v0 : TXv) (v1 : TBv) (v2 : Fn) (v3 : SCv) (v4 : TBv) (v5 : Fn) (v6 : SCv) (vh : HIv) (vr : HRv) (v7 : Int32) (v8 : TBv) (v9 : Fn) (v10 : Int32) (v11 : TBv) (v12 : Fn) (v13 : TAv) (v14 : Fn) (v15 : Fn) (p1 : Int32) (p2 : Int32) (p3 : Int32) (p4 : Int32) (hfl : l.stackTraces = false) {q : Int32 × TXv × TBv × Fn × SCv × HIv × HRv × Int32 × TBv × Fn × Int32 × TBv × Fn × TAv} (hf : f_L_call v0 v1 v2 v3 v4 v5 v6 vh vr v7 v8 v9 v10 v11 v12 v13 v14 v15 p1 p2 p3 p4 = some q) : CM l yL_call cL_call 5 (some .int) rmL_call D cy ad [.ref h0, .int p1, .int p2, .int p3, .int p4] [FP h0 h1 h2 h3 h4 h5 h6 h7 h8 h9, TX cy h1 t1 v0, TB cy h2 a1 a2 a3 v1, SU cy a2 a4 v2, SC a3 v3, TB cy h3 b1 b2 b3 v4, SU cy b2 b4 v5, SC b3 v6, HI h4 r1 vh, HR cy r1 ta vr, SL h5 d1 v7, TB cy d1 d2 d3 d4 v8, SU cy d3 d5 v9, SL h6 e1 v10, TB cy e1 e2 e3 e4 v11, SU cy e3 e5 v12, TA h7 v13, AI cy 12 h8 v14, AI cy 66 h9 v15] (some (.int q.1)) [FP h0 h1 h2 h3 h4 h5 h6 h7 h8 h9, TX cy h1 t1 q.2.1, TB cy h2 a1 a2 a3 q.2.2.1, SU cy a2 a4 q.2.2.2.1, SC a3 q.2.2.2.2.1, TB cy h3 b1 b2 b3 v4, SU cy b2 b4 v5, SC b3 v6, HI h4 r1 q.2.2.2.2.2.1, HR cy r1 ta q.2.2.2.2.2.2.1, SL h5 d1 q.2.2.2.2.2.2.2.1, TB cy d1 d2 d3 d4 q.2.2.2.2.2.2.2.2.1, SU cy d3 d5 q.2.2.2.2.2.2.2.2.2.1, SL h6 e1 q.2.2.2.2.2.2.2.2.2.2.1, TB cy e1 e2 e3 e4 q.2.2.2.2.2.2.2.2.2.2.2.1, SU cy e3 e5 q.2.2.2.2.2.2.2.2.2.2.2.2.1, TA h7 q.2.2.2.2.2.2.2.2.2.2.2.2.2, AI cy 12 h8 v14, AI cy 66 h9 v15] := by
  refine cm_of (lv0 := [(0, .ref h0), (1, .int p1), (2, .int p2), (3, .int p3), (4, .int p4)]) (by decide) (Nat.le_of_ble_eq_true rfl) rfl ?_
  intro p e s m args below meth c A X hr hn
  have X : gK p s m args meth c A D cy ad cL_call 5 RL := X
  unfold f_L_call at hf
  refine g_iload_n X dL_call_0 1 rfl rfl ?_
  by_cases c926 : p1 = (0 : Int32)
  · have hf := opos c926 hf
    refine g_tableIn (off := 79) X 80 dL_call_1 (by rw [c926]; decide) (by rw [c926]; decide) (by rw [c926]; decide) (by decide) ?_
    refine g_aload_n X dL_call_80 0 rfl rfl ?_
    refine g_iload_n X dL_call_81 2 rfl rfl ?_
    obtain ⟨q956, hq956, hf⟩ := obind hf
    refine g_callSW (gs' := [FP h0 h1 h2 h3 h4 h5 h6 h7 h8 h9, TX cy h1 t1 q956.2, TB cy h2 a1 a2 a3 v1, SU cy a2 a4 v2, SC a3 v3, TB cy h3 b1 b2 b3 v4, SU cy b2 b4 v5, SC b3 v6, HI h4 r1 vh, HR cy r1 ta vr, SL h5 d1 v7, TB cy d1 d2 d3 d4 v8, SU cy d3 d5 v9, SL h6 e1 v10, TB cy e1 e2 e3 e4 v11, SU cy e3 e5 v12, TA h7 v13, AI cy 12 h8 v14, AI cy 66 h9 v15]) (rest := []) X dL_call_82 (c_L_tryAppend l D cy ad h0 h1 h2 h3 h4 h5 h6 h7 h8 h9 t1 v0 p2 hfl hq956) mfw_L_tryAppend ms_L_tryAppend lkm_L_85 ⟨(Nat.le_of_ble_eq_true rfl), (Nat.le_of_ble_eq_true rfl), (Nat.le_of_ble_eq_true rfl), (Nat.le_of_ble_eq_true rfl)⟩ [0, 1, 2, 3, 4, 5, 6, 7, 8, 9, 10, 11, 12, 13, 14, 15, 16, 17, 18] _ (by decide : [0, 1, 2, 3, 4, 5, 6, 7, 8, 9, 10, 11, 12, 13, 14, 15, 16, 17, 18].Perm (List.range 19)) rfl (by decide : [0, 1, 2, 3, 4, 5, 6, 7, 8, 9, 10, 11, 12, 13, 14, 15, 16, 17, 18].Perm (List.range 19)) rfl (Nat.le_of_ble_eq_true rfl) rfl ?_
    refine g_cs (c' := 1) (s' := 6) rfl rfl ?_
    refine g_widen (k := 2) (n := 12) (Nat.le_of_ble_eq_true rfl) (Nat.le_of_ble_eq_true rfl) ?_
    have hf := Option.some.inj hf
    subst hf
    exact g_iret X hr dL_call_85
  · have hf := oneg c926 hf
    by_cases c927 : p1 = (1 : Int32)
    · have hf := opos c927 hf
      refine g_tableIn (off := 85) X 86 dL_call_1 (by rw [c927]; decide) (by rw [c927]; decide) (by rw [c927]; decide) (by decide) ?_
      cases hf
    · have hf := oneg c927 hf
      by_cases c928 : p1 = (2 : Int32)
      · have hf := opos c928 hf
        refine g_tableIn (off := 90) X 91 dL_call_1 (by rw [c928]; decide) (by rw [c928]; decide) (by rw [c928]; decide) (by decide) ?_
        refine g_aload_n X dL_call_91 0 rfl rfl ?_
        refine g_iload_n X dL_call_92 2 rfl rfl ?_
        obtain ⟨q955, hq955, hf⟩ := obind hf
        refine g_callSW (gs' := [FP h0 h1 h2 h3 h4 h5 h6 h7 h8 h9, TX cy h1 t1 v0, TB cy h2 a1 a2 a3 v1, SU cy a2 a4 v2, SC a3 v3, TB cy h3 b1 b2 b3 v4, SU cy b2 b4 v5, SC b3 v6, HI h4 r1 vh, HR cy r1 ta vr, SL h5 d1 v7, TB cy d1 d2 d3 d4 v8, SU cy d3 d5 v9, SL h6 e1 v10, TB cy e1 e2 e3 e4 v11, SU cy e3 e5 v12, TA h7 v13, AI cy 12 h8 v14, AI cy 66 h9 v15]) (rest := []) X dL_call_93 (c_L_tryAbout l D cy ad h0 h1 h2 h3 h4 h5 h6 h7 h8 h9 a1 a2 a3 a4 v1 v2 p2 hfl hq955) mfw_L_tryAbout ms_L_tryAbout lkm_L_95 ⟨(Nat.le_of_ble_eq_true rfl), (Nat.le_of_ble_eq_true rfl), (Nat.le_of_ble_eq_true rfl), (Nat.le_of_ble_eq_true rfl)⟩ [0, 2, 3, 1, 4, 5, 6, 7, 8, 9, 10, 11, 12, 13, 14, 15, 16, 17, 18] _ (by decide : [0, 2, 3, 1, 4, 5, 6, 7, 8, 9, 10, 11, 12, 13, 14, 15, 16, 17, 18].Perm (List.range 19)) rfl (by decide : [0, 2, 3, 1, 4, 5, 6, 7, 8, 9, 10, 11, 12, 13, 14, 15, 16, 17, 18].Perm (List.range 19)) rfl (Nat.le_of_ble_eq_true rfl) rfl ?_
        refine g_cs (c' := 1) (s' := 6) rfl rfl ?_
        refine g_widen (k := 2) (n := 12) (Nat.le_of_ble_eq_true rfl) (Nat.le_of_ble_eq_true rfl) ?_
        have hf := Option.some.inj hf
        subst hf
        exact g_iret X hr dL_call_96
      · have hf := oneg c928 hf
        by_cases c929 : p1 = (3 : Int32)
        · have hf := opos c929 hf
          refine g_tableIn (off := 96) X 97 dL_call_1 (by rw [c929]; decide) (by rw [c929]; decide) (by rw [c929]; decide) (by decide) ?_
          refine g_aload_n X dL_call_97 0 rfl rfl ?_
          refine g_iload_n X dL_call_98 2 rfl rfl ?_
          obtain ⟨q954, hq954, hf⟩ := obind hf
          refine g_callSW (gs' := [FP h0 h1 h2 h3 h4 h5 h6 h7 h8 h9, TX cy h1 t1 v0, TB cy h2 a1 a2 a3 v1, SU cy a2 a4 v2, SC a3 v3, TB cy h3 b1 b2 b3 v4, SU cy b2 b4 v5, SC b3 v6, HI h4 r1 vh, HR cy r1 ta vr, SL h5 d1 v7, TB cy d1 d2 d3 d4 v8, SU cy d3 d5 v9, SL h6 e1 v10, TB cy e1 e2 e3 e4 v11, SU cy e3 e5 v12, TA h7 v13, AI cy 12 h8 v14, AI cy 66 h9 v15]) (rest := []) X dL_call_99 (c_L_tryCoin l D cy ad h0 h1 h2 h3 h4 h5 h6 h7 h8 h9 a1 a2 a3 a4 v1 v2 p2 hfl hq954) mfw_L_tryCoin ms_L_tryCoin lkm_L_98 ⟨(Nat.le_of_ble_eq_true rfl), (Nat.le_of_ble_eq_true rfl), (Nat.le_of_ble_eq_true rfl), (Nat.le_of_ble_eq_true rfl)⟩ [0, 2, 3, 1, 4, 5, 6, 7, 8, 9, 10, 11, 12, 13, 14, 15, 16, 17, 18] _ (by decide : [0, 2, 3, 1, 4, 5, 6, 7, 8, 9, 10, 11, 12, 13, 14, 15, 16, 17, 18].Perm (List.range 19)) rfl (by decide : [0, 2, 3, 1, 4, 5, 6, 7, 8, 9, 10, 11, 12, 13, 14, 15, 16, 17, 18].Perm (List.range 19)) rfl (Nat.le_of_ble_eq_true rfl) rfl ?_
          refine g_cs (c' := 1) (s' := 6) rfl rfl ?_
          refine g_widen (k := 2) (n := 12) (Nat.le_of_ble_eq_true rfl) (Nat.le_of_ble_eq_true rfl) ?_
          have hf := Option.some.inj hf
          subst hf
          exact g_iret X hr dL_call_102
        · have hf := oneg c929 hf
          by_cases c930 : p1 = (4 : Int32)
          · have hf := opos c930 hf
            refine g_tableIn (off := 102) X 103 dL_call_1 (by rw [c930]; decide) (by rw [c930]; decide) (by rw [c930]; decide) (by decide) ?_
            refine g_aload_n X dL_call_103 0 rfl rfl ?_
            refine g_iload_n X dL_call_104 2 rfl rfl ?_
            obtain ⟨q953, hq953, hf⟩ := obind hf
            refine g_callSW (gs' := [FP h0 h1 h2 h3 h4 h5 h6 h7 h8 h9, TX cy h1 t1 v0, TB cy h2 a1 a2 a3 v1, SU cy a2 a4 v2, SC a3 v3, TB cy h3 b1 b2 b3 v4, SU cy b2 b4 v5, SC b3 v6, HI h4 r1 vh, HR cy r1 ta vr, SL h5 d1 v7, TB cy d1 d2 d3 d4 v8, SU cy d3 d5 v9, SL h6 e1 v10, TB cy e1 e2 e3 e4 v11, SU cy e3 e5 v12, TA h7 v13, AI cy 12 h8 v14, AI cy 66 h9 v15]) (rest := []) X dL_call_105 (c_L_tryIs l D cy ad h0 h1 h2 h3 h4 h5 h6 h7 h8 h9 a1 a2 a3 a4 v1 v2 p2 hfl hq953) mfw_L_tryIs ms_L_tryIs lkm_L_101 ⟨(Nat.le_of_ble_eq_true rfl), (Nat.le_of_ble_eq_true rfl), (Nat.le_of_ble_eq_true rfl), (Nat.le_of_ble_eq_true rfl)⟩ [0, 2, 3, 1, 4, 5, 6, 7, 8, 9, 10, 11, 12, 13, 14, 15, 16, 17, 18] _ (by decide : [0, 2, 3, 1, 4, 5, 6, 7, 8, 9, 10, 11, 12, 13, 14, 15, 16, 17, 18].Perm (List.range 19)) rfl (by decide : [0, 2, 3, 1, 4, 5, 6, 7, 8, 9, 10, 11, 12, 13, 14, 15, 16, 17, 18].Perm (List.range 19)) rfl (Nat.le_of_ble_eq_true rfl) rfl ?_
            refine g_cs (c' := 1) (s' := 6) rfl rfl ?_
            refine g_widen (k := 2) (n := 12) (Nat.le_of_ble_eq_true rfl) (Nat.le_of_ble_eq_true rfl) ?_
            have hf := Option.some.inj hf
            subst hf
            exact g_iret X hr dL_call_108
          · have hf := oneg c930 hf
            by_cases c931 : p1 = (5 : Int32)
            · have hf := opos c931 hf
              refine g_tableIn (off := 108) X 109 dL_call_1 (by rw [c931]; decide) (by rw [c931]; decide) (by rw [c931]; decide) (by decide) ?_
              refine g_aload_n X dL_call_109 0 rfl rfl ?_
              refine g_iload_n X dL_call_110 2 rfl rfl ?_
              refine g_iload_n X dL_call_111 3 rfl rfl ?_
              obtain ⟨q952, hq952, hf⟩ := obind hf
              refine g_callSW (gs' := [FP h0 h1 h2 h3 h4 h5 h6 h7 h8 h9, TX cy h1 t1 v0, TB cy h2 a1 a2 a3 v1, SU cy a2 a4 v2, SC a3 v3, TB cy h3 b1 b2 b3 v4, SU cy b2 b4 v5, SC b3 v6, HI h4 r1 vh, HR cy r1 ta vr, SL h5 d1 v7, TB cy d1 d2 d3 d4 v8, SU cy d3 d5 v9, SL h6 e1 v10, TB cy e1 e2 e3 e4 v11, SU cy e3 e5 v12, TA h7 v13, AI cy 12 h8 v14, AI cy 66 h9 v15]) (rest := []) X dL_call_112 (c_L_tryTold l D cy ad h0 h1 h2 h3 h4 h5 h6 h7 h8 h9 a1 a2 a3 v1 p2 p3 hfl hq952) mfw_L_tryTold ms_L_tryTold lkm_L_104 ⟨(Nat.le_of_ble_eq_true rfl), (Nat.le_of_ble_eq_true rfl), (Nat.le_of_ble_eq_true rfl), (Nat.le_of_ble_eq_true rfl)⟩ [0, 2, 1, 3, 4, 5, 6, 7, 8, 9, 10, 11, 12, 13, 14, 15, 16, 17, 18] _ (by decide : [0, 2, 1, 3, 4, 5, 6, 7, 8, 9, 10, 11, 12, 13, 14, 15, 16, 17, 18].Perm (List.range 19)) rfl (by decide : [0, 2, 1, 3, 4, 5, 6, 7, 8, 9, 10, 11, 12, 13, 14, 15, 16, 17, 18].Perm (List.range 19)) rfl (Nat.le_of_ble_eq_true rfl) rfl ?_
              refine g_cs (c' := 1) (s' := 6) rfl rfl ?_
              refine g_widen (k := 2) (n := 12) (Nat.le_of_ble_eq_true rfl) (Nat.le_of_ble_eq_true rfl) ?_
              have hf := Option.some.inj hf
              subst hf
              exact g_iret X hr dL_call_115
            · have hf := oneg c931 hf
              by_cases c932 : p1 = (6 : Int32)
              · have hf := opos c932 hf
                refine g_tableIn (off := 115) X 116 dL_call_1 (by rw [c932]; decide) (by rw [c932]; decide) (by rw [c932]; decide) (by decide) ?_
                refine g_aload_n X dL_call_116 0 rfl rfl ?_
                refine g_iload_n X dL_call_117 2 rfl rfl ?_
                refine g_iload_n X dL_call_118 3 rfl rfl ?_
                obtain ⟨q951, hq951, hf⟩ := obind hf
                refine g_callSW (gs' := [FP h0 h1 h2 h3 h4 h5 h6 h7 h8 h9, TX cy h1 t1 v0, TB cy h2 a1 a2 a3 q951.2.1, SU cy a2 a4 q951.2.2.1, SC a3 v3, TB cy h3 b1 b2 b3 v4, SU cy b2 b4 v5, SC b3 v6, HI h4 r1 q951.2.2.2.1, HR cy r1 ta q951.2.2.2.2, SL h5 d1 v7, TB cy d1 d2 d3 d4 v8, SU cy d3 d5 v9, SL h6 e1 v10, TB cy e1 e2 e3 e4 v11, SU cy e3 e5 v12, TA h7 v13, AI cy 12 h8 v14, AI cy 66 h9 v15]) (rest := []) X dL_call_119 (c_L_tryHide l D cy ad h0 h1 h2 h3 h4 h5 h6 h7 h8 h9 a1 a2 a3 a4 r1 ta v1 v2 vh vr p2 p3 hfl hq951) mfw_L_tryHide ms_L_tryHide lkm_L_108 ⟨(Nat.le_of_ble_eq_true rfl), (Nat.le_of_ble_eq_true rfl), (Nat.le_of_ble_eq_true rfl), (Nat.le_of_ble_eq_true rfl)⟩ [0, 2, 3, 8, 9, 1, 4, 5, 6, 7, 10, 11, 12, 13, 14, 15, 16, 17, 18] _ (by decide : [0, 2, 3, 8, 9, 1, 4, 5, 6, 7, 10, 11, 12, 13, 14, 15, 16, 17, 18].Perm (List.range 19)) rfl (by decide : [0, 2, 3, 8, 9, 1, 4, 5, 6, 7, 10, 11, 12, 13, 14, 15, 16, 17, 18].Perm (List.range 19)) rfl (Nat.le_of_ble_eq_true rfl) rfl ?_
                refine g_cs (c' := 1) (s' := 6) rfl rfl ?_
                refine g_widen (k := 2) (n := 12) (Nat.le_of_ble_eq_true rfl) (Nat.le_of_ble_eq_true rfl) ?_
                have hf := Option.some.inj hf
                subst hf
                exact g_iret X hr dL_call_122
              · have hf := oneg c932 hf
                by_cases c933 : p1 = (7 : Int32)
                · have hf := opos c933 hf
                  refine g_tableIn (off := 122) X 123 dL_call_1 (by rw [c933]; decide) (by rw [c933]; decide) (by rw [c933]; decide) (by decide) ?_
                  refine g_aload_n X dL_call_123 0 rfl rfl ?_
                  refine g_iload_n X dL_call_124 2 rfl rfl ?_
                  refine g_iload_n X dL_call_125 3 rfl rfl ?_
                  obtain ⟨q950, hq950, hf⟩ := obind hf
                  refine g_callSW (gs' := [FP h0 h1 h2 h3 h4 h5 h6 h7 h8 h9, TX cy h1 t1 v0, TB cy h2 a1 a2 a3 q950.2.1, SU cy a2 a4 v2, SC a3 v3, TB cy h3 b1 b2 b3 v4, SU cy b2 b4 v5, SC b3 v6, HI h4 r1 q950.2.2.1, HR cy r1 ta q950.2.2.2, SL h5 d1 v7, TB cy d1 d2 d3 d4 v8, SU cy d3 d5 v9, SL h6 e1 v10, TB cy e1 e2 e3 e4 v11, SU cy e3 e5 v12, TA h7 v13, AI cy 12 h8 v14, AI cy 66 h9 v15]) (rest := []) X dL_call_126 (c_L_tryArms l D cy ad h0 h1 h2 h3 h4 h5 h6 h7 h8 h9 a1 a2 a3 a4 r1 ta v1 v2 vh vr p2 p3 hfl hq950) mfw_L_tryArms ms_L_tryArms lkm_L_111 ⟨(Nat.le_of_ble_eq_true rfl), (Nat.le_of_ble_eq_true rfl), (Nat.le_of_ble_eq_true rfl), (Nat.le_of_ble_eq_true rfl)⟩ [0, 2, 3, 8, 9, 1, 4, 5, 6, 7, 10, 11, 12, 13, 14, 15, 16, 17, 18] _ (by decide : [0, 2, 3, 8, 9, 1, 4, 5, 6, 7, 10, 11, 12, 13, 14, 15, 16, 17, 18].Perm (List.range 19)) rfl (by decide : [0, 2, 3, 8, 9, 1, 4, 5, 6, 7, 10, 11, 12, 13, 14, 15, 16, 17, 18].Perm (List.range 19)) rfl (Nat.le_of_ble_eq_true rfl) rfl ?_
                  refine g_cs (c' := 1) (s' := 6) rfl rfl ?_
                  refine g_widen (k := 2) (n := 12) (Nat.le_of_ble_eq_true rfl) (Nat.le_of_ble_eq_true rfl) ?_
                  have hf := Option.some.inj hf
                  subst hf
                  exact g_iret X hr dL_call_129
                · have hf := oneg c933 hf
                  by_cases c934 : p1 = (8 : Int32)
                  · have hf := opos c934 hf
                    refine g_tableIn (off := 129) X 130 dL_call_1 (by rw [c934]; decide) (by rw [c934]; decide) (by rw [c934]; decide) (by decide) ?_
                    refine g_aload_n X dL_call_130 0 rfl rfl ?_
                    refine g_iload_n X dL_call_131 2 rfl rfl ?_
                    refine g_iload_n X dL_call_132 3 rfl rfl ?_
                    obtain ⟨q949, hq949, hf⟩ := obind hf
                    refine g_callSW (gs' := [FP h0 h1 h2 h3 h4 h5 h6 h7 h8 h9, TX cy h1 t1 v0, TB cy h2 a1 a2 a3 q949.2.1, SU cy a2 a4 q949.2.2.1, SC a3 q949.2.2.2.1, TB cy h3 b1 b2 b3 v4, SU cy b2 b4 v5, SC b3 v6, HI h4 r1 q949.2.2.2.2.1, HR cy r1 ta q949.2.2.2.2.2, SL h5 d1 v7, TB cy d1 d2 d3 d4 v8, SU cy d3 d5 v9, SL h6 e1 v10, TB cy e1 e2 e3 e4 v11, SU cy e3 e5 v12, TA h7 v13, AI cy 12 h8 v14, AI cy 66 h9 v15]) (rest := []) X dL_call_133 (c_L_tryWeigh l D cy ad h0 h1 h2 h3 h4 h5 h6 h7 h8 h9 a1 a2 a3 a4 r1 ta v1 v2 v3 vh vr p2 p3 hfl hq949) mfw_L_tryWeigh ms_L_tryWeigh lkm_L_114 ⟨(Nat.le_of_ble_eq_true rfl), (Nat.le_of_ble_eq_true rfl), (Nat.le_of_ble_eq_true rfl), (Nat.le_of_ble_eq_true rfl)⟩ [0, 2, 3, 4, 8, 9, 1, 5, 6, 7, 10, 11, 12, 13, 14, 15, 16, 17, 18] _ (by decide : [0, 2, 3, 4, 8, 9, 1, 5, 6, 7, 10, 11, 12, 13, 14, 15, 16, 17, 18].Perm (List.range 19)) rfl (by decide : [0, 2, 3, 4, 8, 9, 1, 5, 6, 7, 10, 11, 12, 13, 14, 15, 16, 17, 18].Perm (List.range 19)) rfl (Nat.le_of_ble_eq_true rfl) rfl ?_
                    refine g_cs (c' := 2) (s' := 12) rfl rfl ?_
                    have hf := Option.some.inj hf
                    subst hf
                    exact g_iret X hr dL_call_136
                  · have hf := oneg c934 hf
                    by_cases c935 : p1 = (9 : Int32)
                    · have hf := opos c935 hf
                      refine g_tableIn (off := 136) X 137 dL_call_1 (by rw [c935]; decide) (by rw [c935]; decide) (by rw [c935]; decide) (by decide) ?_
                      refine g_aload_n X dL_call_137 0 rfl rfl ?_
                      refine g_iload_n X dL_call_138 2 rfl rfl ?_
                      obtain ⟨q948, hq948, hf⟩ := obind hf
                      refine g_callSW (gs' := [FP h0 h1 h2 h3 h4 h5 h6 h7 h8 h9, TX cy h1 t1 v0, TB cy h2 a1 a2 a3 q948.2.1, SU cy a2 a4 v2, SC a3 v3, TB cy h3 b1 b2 b3 v4, SU cy b2 b4 v5, SC b3 v6, HI h4 r1 q948.2.2.1, HR cy r1 ta q948.2.2.2, SL h5 d1 v7, TB cy d1 d2 d3 d4 v8, SU cy d3 d5 v9, SL h6 e1 v10, TB cy e1 e2 e3 e4 v11, SU cy e3 e5 v12, TA h7 v13, AI cy 12 h8 v14, AI cy 66 h9 v15]) (rest := []) X dL_call_139 (c_L_tryPan l D cy ad h0 h1 h2 h3 h4 h5 h6 h7 h8 h9 a1 a2 a3 a4 r1 ta v1 v2 vh vr p2 hfl hq948) mfw_L_tryPan ms_L_tryPan lkm_L_117 ⟨(Nat.le_of_ble_eq_true rfl), (Nat.le_of_ble_eq_true rfl), (Nat.le_of_ble_eq_true rfl), (Nat.le_of_ble_eq_true rfl)⟩ [0, 2, 3, 8, 9, 1, 4, 5, 6, 7, 10, 11, 12, 13, 14, 15, 16, 17, 18] _ (by decide : [0, 2, 3, 8, 9, 1, 4, 5, 6, 7, 10, 11, 12, 13, 14, 15, 16, 17, 18].Perm (List.range 19)) rfl (by decide : [0, 2, 3, 8, 9, 1, 4, 5, 6, 7, 10, 11, 12, 13, 14, 15, 16, 17, 18].Perm (List.range 19)) rfl (Nat.le_of_ble_eq_true rfl) rfl ?_
                      refine g_cs (c' := 1) (s' := 6) rfl rfl ?_
                      refine g_widen (k := 2) (n := 12) (Nat.le_of_ble_eq_true rfl) (Nat.le_of_ble_eq_true rfl) ?_
                      have hf := Option.some.inj hf
                      subst hf
                      exact g_iret X hr dL_call_142
                    · have hf := oneg c935 hf
                      by_cases c936 : p1 = (10 : Int32)
                      · have hf := opos c936 hf
                        refine g_tableIn (off := 142) X 143 dL_call_1 (by rw [c936]; decide) (by rw [c936]; decide) (by rw [c936]; decide) (by decide) ?_
                        refine g_aload_n X dL_call_143 0 rfl rfl ?_
                        obtain ⟨q947, hq947, hf⟩ := obind hf
                        refine g_callSW (gs' := [FP h0 h1 h2 h3 h4 h5 h6 h7 h8 h9, TX cy h1 t1 v0, TB cy h2 a1 a2 a3 q947.2.1, SU cy a2 a4 q947.2.2.1, SC a3 q947.2.2.2.1, TB cy h3 b1 b2 b3 v4, SU cy b2 b4 v5, SC b3 v6, HI h4 r1 q947.2.2.2.2.1, HR cy r1 ta q947.2.2.2.2.2, SL h5 d1 v7, TB cy d1 d2 d3 d4 v8, SU cy d3 d5 v9, SL h6 e1 v10, TB cy e1 e2 e3 e4 v11, SU cy e3 e5 v12, TA h7 v13, AI cy 12 h8 v14, AI cy 66 h9 v15]) (rest := []) X dL_call_144 (c_L_tryForget l D cy ad h0 h1 h2 h3 h4 h5 h6 h7 h8 h9 a1 a2 a3 a4 r1 ta v1 v2 v3 vh vr hfl hq947) mfw_L_tryForget ms_L_tryForget lkm_L_120 ⟨(Nat.le_of_ble_eq_true rfl), (Nat.le_of_ble_eq_true rfl), (Nat.le_of_ble_eq_true rfl), (Nat.le_of_ble_eq_true rfl)⟩ [0, 2, 3, 4, 8, 9, 1, 5, 6, 7, 10, 11, 12, 13, 14, 15, 16, 17, 18] _ (by decide : [0, 2, 3, 4, 8, 9, 1, 5, 6, 7, 10, 11, 12, 13, 14, 15, 16, 17, 18].Perm (List.range 19)) rfl (by decide : [0, 2, 3, 4, 8, 9, 1, 5, 6, 7, 10, 11, 12, 13, 14, 15, 16, 17, 18].Perm (List.range 19)) rfl (Nat.le_of_ble_eq_true rfl) rfl ?_
                        refine g_cs (c' := 1) (s' := 6) rfl rfl ?_
                        refine g_widen (k := 2) (n := 12) (Nat.le_of_ble_eq_true rfl) (Nat.le_of_ble_eq_true rfl) ?_
                        have hf := Option.some.inj hf
                        subst hf
                        exact g_iret X hr dL_call_147
                      · have hf := oneg c936 hf
                        by_cases c937 : p1 = (11 : Int32)
                        · have hf := opos c937 hf
                          refine g_tableIn (off := 147) X 148 dL_call_1 (by rw [c937]; decide) (by rw [c937]; decide) (by rw [c937]; decide) (by decide) ?_
                          refine g_aload_n X dL_call_148 0 rfl rfl ?_
                          obtain ⟨q946, hq946, hf⟩ := obind hf
                          refine g_callSW (gs' := [FP h0 h1 h2 h3 h4 h5 h6 h7 h8 h9, TX cy h1 t1 v0, TB cy h2 a1 a2 a3 q946.2.1, SU cy a2 a4 q946.2.2.1, SC a3 v3, TB cy h3 b1 b2 b3 v4, SU cy b2 b4 v5, SC b3 v6, HI h4 r1 q946.2.2.2, HR cy r1 ta vr, SL h5 d1 v7, TB cy d1 d2 d3 d4 v8, SU cy d3 d5 v9, SL h6 e1 v10, TB cy e1 e2 e3 e4 v11, SU cy e3 e5 v12, TA h7 v13, AI cy 12 h8 v14, AI cy 66 h9 v15]) (rest := []) X dL_call_149 (c_L_tryUndo l D cy ad h0 h1 h2 h3 h4 h5 h6 h7 h8 h9 a1 a2 a3 a4 r1 ta v1 v2 vh vr hfl hq946) mfw_L_tryUndo ms_L_tryUndo lkm_L_123 ⟨(Nat.le_of_ble_eq_true rfl), (Nat.le_of_ble_eq_true rfl), (Nat.le_of_ble_eq_true rfl), (Nat.le_of_ble_eq_true rfl)⟩ [0, 2, 3, 8, 9, 1, 4, 5, 6, 7, 10, 11, 12, 13, 14, 15, 16, 17, 18] _ (by decide : [0, 2, 3, 8, 9, 1, 4, 5, 6, 7, 10, 11, 12, 13, 14, 15, 16, 17, 18].Perm (List.range 19)) rfl (by decide : [0, 2, 3, 8, 9, 1, 4, 5, 6, 7, 10, 11, 12, 13, 14, 15, 16, 17, 18].Perm (List.range 19)) rfl (Nat.le_of_ble_eq_true rfl) rfl ?_
                          refine g_cs (c' := 1) (s' := 6) rfl rfl ?_
                          refine g_widen (k := 2) (n := 12) (Nat.le_of_ble_eq_true rfl) (Nat.le_of_ble_eq_true rfl) ?_
                          have hf := Option.some.inj hf
                          subst hf
                          exact g_iret X hr dL_call_152
                        · have hf := oneg c937 hf
                          by_cases c938 : p1 = (12 : Int32)
                          · have hf := opos c938 hf
                            refine g_tableIn (off := 152) X 153 dL_call_1 (by rw [c938]; decide) (by rw [c938]; decide) (by rw [c938]; decide) (by decide) ?_
                            refine g_aload_n X dL_call_153 0 rfl rfl ?_
                            refine g_iload_n X dL_call_154 2 rfl rfl ?_
                            refine g_iload_n X dL_call_155 3 rfl rfl ?_
                            refine g_iload X dL_call_156 4 rfl ?_
                            obtain ⟨q945, hq945, hf⟩ := obind hf
                            refine g_callSW (gs' := [FP h0 h1 h2 h3 h4 h5 h6 h7 h8 h9, TX cy h1 t1 v0, TB cy h2 a1 a2 a3 v1, SU cy a2 a4 v2, SC a3 q945.2.1, TB cy h3 b1 b2 b3 v4, SU cy b2 b4 v5, SC b3 v6, HI h4 r1 vh, HR cy r1 ta vr, SL h5 d1 v7, TB cy d1 d2 d3 d4 v8, SU cy d3 d5 v9, SL h6 e1 v10, TB cy e1 e2 e3 e4 v11, SU cy e3 e5 v12, TA h7 q945.2.2, AI cy 12 h8 v14, AI cy 66 h9 v15]) (rest := []) X dL_call_158 (c_L_tryLeaves l D cy ad h0 h1 h2 h3 h4 h5 h6 h7 h8 h9 a1 a2 a3 a4 v1 v2 v3 v13 p2 p3 p4 hfl hq945) mfw_L_tryLeaves ms_L_tryLeaves lkm_L_126 ⟨(Nat.le_of_ble_eq_true rfl), (Nat.le_of_ble_eq_true rfl), (Nat.le_of_ble_eq_true rfl), (Nat.le_of_ble_eq_true rfl)⟩ [0, 2, 3, 4, 16, 1, 5, 6, 7, 8, 9, 10, 11, 12, 13, 14, 15, 17, 18] _ (by decide : [0, 2, 3, 4, 16, 1, 5, 6, 7, 8, 9, 10, 11, 12, 13, 14, 15, 17, 18].Perm (List.range 19)) rfl (by decide : [0, 2, 3, 4, 16, 1, 5, 6, 7, 8, 9, 10, 11, 12, 13, 14, 15, 17, 18].Perm (List.range 19)) rfl (Nat.le_of_ble_eq_true rfl) rfl ?_
                            refine g_cs (c' := 2) (s' := 12) rfl rfl ?_
                            have hf := Option.some.inj hf
                            subst hf
                            exact g_iret X hr dL_call_161
                          · have hf := oneg c938 hf
                            by_cases c939 : p1 = (13 : Int32)
                            · have hf := opos c939 hf
                              refine g_tableIn (off := 161) X 162 dL_call_1 (by rw [c939]; decide) (by rw [c939]; decide) (by rw [c939]; decide) (by decide) ?_
                              refine g_aload_n X dL_call_162 0 rfl rfl ?_
                              refine g_iload_n X dL_call_163 2 rfl rfl ?_
                              refine g_iload_n X dL_call_164 3 rfl rfl ?_
                              obtain ⟨q944, hq944, hf⟩ := obind hf
                              refine g_callSW (gs' := [FP h0 h1 h2 h3 h4 h5 h6 h7 h8 h9, TX cy h1 t1 v0, TB cy h2 a1 a2 a3 v1, SU cy a2 a4 v2, SC a3 q944.2.1, TB cy h3 b1 b2 b3 v4, SU cy b2 b4 v5, SC b3 v6, HI h4 r1 vh, HR cy r1 ta vr, SL h5 d1 v7, TB cy d1 d2 d3 d4 v8, SU cy d3 d5 v9, SL h6 e1 v10, TB cy e1 e2 e3 e4 v11, SU cy e3 e5 v12, TA h7 q944.2.2, AI cy 12 h8 v14, AI cy 66 h9 v15]) (rest := []) X dL_call_165 (c_L_tryBest l D cy ad h0 h1 h2 h3 h4 h5 h6 h7 h8 h9 a1 a2 a3 a4 v1 v2 v3 v13 v14 v15 p2 p3 hfl hq944) mfw_L_tryBest ms_L_tryBest lkm_L_130 ⟨(Nat.le_of_ble_eq_true rfl), (Nat.le_of_ble_eq_true rfl), (Nat.le_of_ble_eq_true rfl), (Nat.le_of_ble_eq_true rfl)⟩ [0, 2, 3, 4, 16, 17, 18, 1, 5, 6, 7, 8, 9, 10, 11, 12, 13, 14, 15] _ (by decide : [0, 2, 3, 4, 16, 17, 18, 1, 5, 6, 7, 8, 9, 10, 11, 12, 13, 14, 15].Perm (List.range 19)) rfl (by decide : [0, 2, 3, 4, 16, 17, 18, 1, 5, 6, 7, 8, 9, 10, 11, 12, 13, 14, 15].Perm (List.range 19)) rfl (Nat.le_of_ble_eq_true rfl) rfl ?_
                              refine g_cs (c' := 1) (s' := 6) rfl rfl ?_
                              refine g_widen (k := 2) (n := 12) (Nat.le_of_ble_eq_true rfl) (Nat.le_of_ble_eq_true rfl) ?_
                              have hf := Option.some.inj hf
                              subst hf
                              exact g_iret X hr dL_call_168
                            · have hf := oneg c939 hf
                              by_cases c940 : p1 = (14 : Int32)
                              · have hf := opos c940 hf
                                refine g_tableIn (off := 168) X 169 dL_call_1 (by rw [c940]; decide) (by rw [c940]; decide) (by rw [c940]; decide) (by decide) ?_
                                refine g_aload_n X dL_call_169 0 rfl rfl ?_
                                refine g_iload_n X dL_call_170 2 rfl rfl ?_
                                refine g_iload_n X dL_call_171 3 rfl rfl ?_
                                obtain ⟨q943, hq943, hf⟩ := obind hf
                                refine g_callSW (gs' := [FP h0 h1 h2 h3 h4 h5 h6 h7 h8 h9, TX cy h1 t1 v0, TB cy h2 a1 a2 a3 v1, SU cy a2 a4 v2, SC a3 q943.2.1, TB cy h3 b1 b2 b3 v4, SU cy b2 b4 v5, SC b3 v6, HI h4 r1 vh, HR cy r1 ta vr, SL h5 d1 v7, TB cy d1 d2 d3 d4 v8, SU cy d3 d5 v9, SL h6 e1 v10, TB cy e1 e2 e3 e4 v11, SU cy e3 e5 v12, TA h7 q943.2.2, AI cy 12 h8 v14, AI cy 66 h9 v15]) (rest := []) X dL_call_172 (c_L_tryTry l D cy ad h0 h1 h2 h3 h4 h5 h6 h7 h8 h9 a1 a2 a3 a4 v1 v2 v3 v13 p2 p3 hfl hq943) mfw_L_tryTry ms_L_tryTry lkm_L_133 ⟨(Nat.le_of_ble_eq_true rfl), (Nat.le_of_ble_eq_true rfl), (Nat.le_of_ble_eq_true rfl), (Nat.le_of_ble_eq_true rfl)⟩ [0, 2, 3, 4, 16, 1, 5, 6, 7, 8, 9, 10, 11, 12, 13, 14, 15, 17, 18] _ (by decide : [0, 2, 3, 4, 16, 1, 5, 6, 7, 8, 9, 10, 11, 12, 13, 14, 15, 17, 18].Perm (List.range 19)) rfl (by decide : [0, 2, 3, 4, 16, 1, 5, 6, 7, 8, 9, 10, 11, 12, 13, 14, 15, 17, 18].Perm (List.range 19)) rfl (Nat.le_of_ble_eq_true rfl) rfl ?_
                                refine g_cs (c' := 2) (s' := 12) rfl rfl ?_
                                have hf := Option.some.inj hf
                                subst hf
                                exact g_iret X hr dL_call_175
                              · have hf := oneg c940 hf
                                by_cases c941 : p1 = (15 : Int32)
                                · have hf := opos c941 hf
                                  refine g_tableIn (off := 175) X 176 dL_call_1 (by rw [c941]; decide) (by rw [c941]; decide) (by rw [c941]; decide) (by decide) ?_
                                  refine g_aload_n X dL_call_176 0 rfl rfl ?_
                                  refine g_iload_n X dL_call_177 2 rfl rfl ?_
                                  obtain ⟨q942, hq942, hf⟩ := obind hf
                                  refine g_callSW (gs' := [FP h0 h1 h2 h3 h4 h5 h6 h7 h8 h9, TX cy h1 t1 v0, TB cy h2 a1 a2 a3 v1, SU cy a2 a4 v2, SC a3 v3, TB cy h3 b1 b2 b3 v4, SU cy b2 b4 v5, SC b3 v6, HI h4 r1 vh, HR cy r1 ta vr, SL h5 d1 q942.2.1, TB cy d1 d2 d3 d4 q942.2.2.1, SU cy d3 d5 q942.2.2.2.1, SL h6 e1 q942.2.2.2.2.1, TB cy e1 e2 e3 e4 q942.2.2.2.2.2.1, SU cy e3 e5 q942.2.2.2.2.2.2, TA h7 v13, AI cy 12 h8 v14, AI cy 66 h9 v15]) (rest := []) X dL_call_178 (c_L_tryKeep l D cy ad h0 h1 h2 h3 h4 h5 h6 h7 h8 h9 a1 a2 a3 a4 d1 d2 d3 d4 d5 e1 e2 e3 e4 e5 v1 v2 v7 v8 v9 v10 v11 v12 p2 hfl hq942) mfw_L_tryKeep ms_L_tryKeep lkm_L_136 ⟨(Nat.le_of_ble_eq_true rfl), (Nat.le_of_ble_eq_true rfl), (Nat.le_of_ble_eq_true rfl), (Nat.le_of_ble_eq_true rfl)⟩ [0, 2, 3, 10, 11, 12, 13, 14, 15, 1, 4, 5, 6, 7, 8, 9, 16, 17, 18] _ (by decide : [0, 2, 3, 10, 11, 12, 13, 14, 15, 1, 4, 5, 6, 7, 8, 9, 16, 17, 18].Perm (List.range 19)) rfl (by decide : [0, 2, 3, 10, 11, 12, 13, 14, 15, 1, 4, 5, 6, 7, 8, 9, 16, 17, 18].Perm (List.range 19)) rfl (Nat.le_of_ble_eq_true rfl) rfl ?_
                                  refine g_cs (c' := 1) (s' := 6) rfl rfl ?_
                                  refine g_widen (k := 2) (n := 12) (Nat.le_of_ble_eq_true rfl) (Nat.le_of_ble_eq_true rfl) ?_
                                  have hf := Option.some.inj hf
                                  subst hf
                                  exact g_iret X hr dL_call_181
                                · have hf := oneg c941 hf
                                  refine g_tableOut X 182 dL_call_1 (sw_out (fun k9 h91 h92 h93 => ?_)) (by decide) ?_
                                  · have := sw_ne (by decide : ((0 : Int32)).toInt = 0) c926
                                    have := sw_ne (by decide : ((1 : Int32)).toInt = 1) c927
                                    have := sw_ne (by decide : ((2 : Int32)).toInt = 2) c928
                                    have := sw_ne (by decide : ((3 : Int32)).toInt = 3) c929
                                    have := sw_ne (by decide : ((4 : Int32)).toInt = 4) c930
                                    have := sw_ne (by decide : ((5 : Int32)).toInt = 5) c931
                                    have := sw_ne (by decide : ((6 : Int32)).toInt = 6) c932
                                    have := sw_ne (by decide : ((7 : Int32)).toInt = 7) c933
                                    have := sw_ne (by decide : ((8 : Int32)).toInt = 8) c934
                                    have := sw_ne (by decide : ((9 : Int32)).toInt = 9) c935
                                    have := sw_ne (by decide : ((10 : Int32)).toInt = 10) c936
                                    have := sw_ne (by decide : ((11 : Int32)).toInt = 11) c937
                                    have := sw_ne (by decide : ((12 : Int32)).toInt = 12) c938
                                    have := sw_ne (by decide : ((13 : Int32)).toInt = 13) c939
                                    have := sw_ne (by decide : ((14 : Int32)).toInt = 14) c940
                                    have := sw_ne (by decide : ((15 : Int32)).toInt = 15) c941
                                    omega
                                  · refine g_aload_n X dL_call_182 0 rfl rfl ?_
                                    refine g_iload_n X dL_call_183 2 rfl rfl ?_
                                    obtain ⟨q925, hq925, hf⟩ := obind hf
                                    refine g_callSW (gs' := [FP h0 h1 h2 h3 h4 h5 h6 h7 h8 h9, TX cy h1 t1 v0, TB cy h2 a1 a2 a3 q925.2.1, SU cy a2 a4 q925.2.2.1, SC a3 v3, TB cy h3 b1 b2 b3 v4, SU cy b2 b4 v5, SC b3 v6, HI h4 r1 q925.2.2.2, HR cy r1 ta vr, SL h5 d1 v7, TB cy d1 d2 d3 d4 v8, SU cy d3 d5 v9, SL h6 e1 v10, TB cy e1 e2 e3 e4 v11, SU cy e3 e5 v12, TA h7 v13, AI cy 12 h8 v14, AI cy 66 h9 v15]) (rest := []) X dL_call_184 (c_L_tryBack l D cy ad h0 h1 h2 h3 h4 h5 h6 h7 h8 h9 a1 a2 a3 a4 r1 d1 d2 d3 d4 d5 e1 e2 e3 e4 e5 v1 v2 vh v7 v8 v9 v10 v11 v12 p2 hfl hq925) mfw_L_tryBack ms_L_tryBack lkm_L_139 ⟨(Nat.le_of_ble_eq_true rfl), (Nat.le_of_ble_eq_true rfl), (Nat.le_of_ble_eq_true rfl), (Nat.le_of_ble_eq_true rfl)⟩ [0, 2, 3, 8, 10, 11, 12, 13, 14, 15, 1, 4, 5, 6, 7, 9, 16, 17, 18] _ (by decide : [0, 2, 3, 8, 10, 11, 12, 13, 14, 15, 1, 4, 5, 6, 7, 9, 16, 17, 18].Perm (List.range 19)) rfl (by decide : [0, 2, 3, 8, 10, 11, 12, 13, 14, 15, 1, 4, 5, 6, 7, 9, 16, 17, 18].Perm (List.range 19)) rfl (Nat.le_of_ble_eq_true rfl) rfl ?_
                                    refine g_cs (c' := 1) (s' := 6) rfl rfl ?_
                                    refine g_widen (k := 2) (n := 12) (Nat.le_of_ble_eq_true rfl) (Nat.le_of_ble_eq_true rfl) ?_
                                    have hf := Option.some.inj hf
                                    subst hf
                                    exact g_iret X hr dL_call_187
