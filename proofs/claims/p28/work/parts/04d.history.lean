/-! ===== History: 14 tables in a ring ===== -/
abbrev TAd : Type := Nat → Nat × Nat × Nat × Nat × Nat
abbrev HRv : Type := Nat → TBv × Fn × SCv
abbrev HT1 (cy : Nat → ClassId) (ta : TAd) (v : HRv) (k : Nat) : List va_W := [TB cy (ta k).1 (ta k).2.1 (ta k).2.2.1 (ta k).2.2.2.1 (v k).1, SU cy (ta k).2.2.1 (ta k).2.2.2.2 (v k).2.1, SC (ta k).2.2.2.1 (v k).2.2]
def HTs (cy : Nat → ClassId) (ta : TAd) (v : HRv) (ks : List Nat) : va_W := (ks.flatMap (HT1 cy ta v)).flatten
abbrev RG (cy : Nat → ClassId) (a1 : Nat) (ta : TAd) : va_W := [(a1, .inl (cy 3, 14, .inr (.inr (.inr (.inr (fun k => some (ta k).1))))))]
abbrev HR (cy : Nat → ClassId) (a1 : Nat) (ta : TAd) (v : HRv) : va_W := RG cy a1 ta ++ HTs cy ta v (List.range 14)
theorem fl_split {α : Type} (a : List α) (bs : List (List α)) (pre post : List (List α)) (h : a.Perm bs.flatten) : (pre ++ a :: post).flatten.Perm (pre ++ (bs ++ post)).flatten := by
  rw [List.flatten_append, List.flatten_cons, List.flatten_append, List.flatten_append]
  exact List.Perm.append_left _ (List.Perm.append_right _ h)
theorem flatMap_perm {α β : Type} (f : α → List β) : ∀ {a b : List α}, a.Perm b → (a.flatMap f).Perm (b.flatMap f) := by
  intro a b h
  induction h with
  | nil => exact List.Perm.refl _
  | cons x _ ih => rw [List.flatMap_cons, List.flatMap_cons]; exact List.Perm.append_left _ ih
  | swap x y t => rw [List.flatMap_cons, List.flatMap_cons, List.flatMap_cons, List.flatMap_cons, ← List.append_assoc, ← List.append_assoc]; exact List.Perm.append_right _ List.perm_append_comm
  | trans _ _ h1 h2 => exact h1.trans h2
theorem HTs_cong {cy : Nat → ClassId} {ta : TAd} {v v' : HRv} : ∀ {ks : List Nat}, (∀ k ∈ ks, v k = v' k) → HTs cy ta v ks = HTs cy ta v' ks := by
  intro ks
  induction ks with
  | nil => intro _; rfl
  | cons a l ih =>
    intro h
    have h1 := ih (fun k hk => h k (List.mem_cons_of_mem _ hk))
    unfold HTs at h1 ⊢
    rw [List.flatMap_cons, List.flatMap_cons, List.flatten_append, List.flatten_append, h1]
    have e : HT1 cy ta v a = HT1 cy ta v' a := by unfold HT1; rw [h a List.mem_cons_self]
    rw [e]
/-- one table taken out of the ring's -/
abbrev HRk (cy : Nat → ClassId) (a1 : Nat) (ta : TAd) (v : HRv) (k : Nat) (w : TBv) (u : Fn) (sc : SCv) : List va_W := [RG cy a1 ta, TB cy (ta k).1 (ta k).2.1 (ta k).2.2.1 (ta k).2.2.2.1 w, SU cy (ta k).2.2.1 (ta k).2.2.2.2 u, SC (ta k).2.2.2.1 sc, HTs cy ta v ((List.range 14).erase k)]
theorem HR_out {cy : Nat → ClassId} {a1 : Nat} {ta : TAd} (v : HRv) {k : Nat} (hk : k < 14) : (HR cy a1 ta v).Perm (HRk cy a1 ta v k (v k).1 (v k).2.1 (v k).2.2).flatten := by
  have h1 : (List.range 14).Perm (k :: (List.range 14).erase k) := List.perm_cons_erase (List.mem_range.mpr hk)
  have h2 : (HTs cy ta v (List.range 14)).Perm (HTs cy ta v (k :: (List.range 14).erase k)) := gp_fl (flatMap_perm (HT1 cy ta v) h1)
  refine (List.Perm.append_left (RG cy a1 ta) h2).trans (List.Perm.of_eq ?_)
  simp only [HTs, List.flatMap_cons, List.flatten_append, List.flatten_cons, List.flatten_nil, List.append_nil, List.append_assoc]
theorem HR_in {cy : Nat → ClassId} {a1 : Nat} {ta : TAd} (v : HRv) {k : Nat} (hk : k < 14) (w : TBv) (u : Fn) (sc : SCv) : (HRk cy a1 ta v k w u sc).flatten.Perm (HR cy a1 ta (va_up v k (w, u, sc))) := by
  have e : HTs cy ta v ((List.range 14).erase k) = HTs cy ta (va_up v k (w, u, sc)) ((List.range 14).erase k) := by
    refine HTs_cong (fun j hj => ?_)
    have hne : j ≠ k := fun z => by
      subst z
      exact (List.Nodup.not_mem_erase List.nodup_range) hj
    exact (va_up_ne _ _ hne).symm
  have h := (HR_out (cy := cy) (a1 := a1) (ta := ta) (va_up v k (w, u, sc)) hk).symm
  have e2 : va_up v k (w, u, sc) k = (w, u, sc) := by unfold va_up; exact if_pos rfl
  rw [e2] at h
  unfold HRk at h ⊢
  rw [e]
  exact h
section GWH
variable {p : Program} {l : Launch} {e : Env} {R : Room} {s : State} {m : MethodId} {args : Array Value} {below : List Frame} {meth : Method} {c : Code} {cells slots : Nat} {Q : State → Prop} {A : Nat → Prop} {D : va_G} {nL pc : Nat} {lv : List (Nat × Value)} {st : List Value} {gs gs' : List va_W}
theorem g_fperm (h : gs.flatten.Perm gs'.flatten) (K : GW p l e R s m args below meth c A D nL cells slots Q pc lv st gs') : GW p l e R s m args below meth c A D nL cells slots Q pc lv st gs := fun H locs ls hP hD hS hl => K H locs ls (gp_P h hP) (gp_D h hD) hS hl
end GWH
theorem i14 {i : Int32} (h : ¬ (i < 0 ∨ 14 ≤ i.toNatClampNeg)) : ¬ i < 0 ∧ ¬ (14 : Int32) ≤ i ∧ i.toNatClampNeg < 14 := by
  have h1 : ¬ i < 0 := fun z => h (Or.inl z)
  have h2 : i.toNatClampNeg < 14 := Nat.lt_of_not_le (fun z => h (Or.inr z))
  refine ⟨h1, fun z => ?_, h2⟩
  rw [Int32.le_iff_toInt_le] at z
  have e : (14 : Int32).toInt = 14 := by decide
  have e2 : i.toNatClampNeg = i.toInt.toNat := rfl
  omega
abbrev rmX0_placeAt : Room := ({ frames := 0, cells := 0, slots := 0, locals := 0 } : Room)
set_option maxRecDepth 100000 in
theorem c_X0_placeAt (l : Launch) (D : va_G) (cy : Nat → ClassId) (ad : (Nat → Nat) × (Nat → Nat)) (h0 h1 : Nat) (ta : TAd) (v0 : HIv) (v1 : HRv) (p1 : Int32) (hi : ¬ (p1 < 0 ∨ 14 ≤ p1.toNatClampNeg)) : CM l yX0_placeAt cX0_placeAt 2 (some (.object "FalsePan$Table")) rmX0_placeAt D cy ad [.ref h0, .int p1] [HI h0 h1 v0, HR cy h1 ta v1] (some (.ref (ta p1.toNatClampNeg).1)) [HI h0 h1 v0, HR cy h1 ta v1] := by
  refine cm_of (lv0 := [(0, .ref h0), (1, .int p1)]) (by decide) (Nat.le_of_ble_eq_true rfl) rfl ?_
  intro p e s m args below meth c A X hr hn
  have X : gK p s m args meth c A D cy ad cX0_placeAt 2 RX0 := X
  obtain ⟨i1, i2, i3⟩ := i14 hi
  refine g_iload_n X dX0_placeAt_0 1 rfl rfl ?_
  refine g_if_lt X 22 dX0_placeAt_1 (by decide) (fun z => absurd z i1) (fun _ => ?_)
  refine g_iload_n X dX0_placeAt_4 1 rfl rfl ?_
  refine g_aload_n X dX0_placeAt_5 0 rfl rfl ?_
  refine g_get X dX0_placeAt_6 ck_X0 0 0 0 rfl rfl (Nat.le_of_ble_eq_true rfl) lkf_X0_11 rfl ?_
  refine g_alen3 (v := (14 : Int32)) X dX0_placeAt_9 1 0 rfl rfl (by decide : Int32.ofNat 14 = (14 : Int32)) ?_
  refine g_icmp_ge X 22 dX0_placeAt_10 (by decide) (fun z => absurd z i2) (fun _ => ?_)
  refine g_aload_n X dX0_placeAt_13 0 rfl rfl ?_
  refine g_get X dX0_placeAt_14 ck_X0 0 0 0 rfl rfl (Nat.le_of_ble_eq_true rfl) lkf_X0_11 rfl ?_
  refine g_iload_n X dX0_placeAt_17 1 rfl rfl ?_
  refine g_aaload X dX0_placeAt_18 1 0 rfl rfl hi ?_
  refine g_goto X 23 dX0_placeAt_19 (by decide) ?_
  exact g_aret X hr (Or.inl ⟨_, rfl⟩) (Or.inr ⟨_, rfl⟩) dX0_placeAt_23
abbrev rmX0_remember : Room := ({ frames := 2, cells := 0, slots := 0, locals := 44 } : Room)
def f_X0_remember (v0 : HIv) (v1 : HRv) (w0 : TBv) (u0 : Fn) : Option (HIv × HRv) :=
  if v0.1 < 0 ∨ 14 ≤ v0.1.toNatClampNeg then none else (f_X4_copyFrom (v1 v0.1.toNatClampNeg).1 (v1 v0.1.toNatClampNeg).2.1 w0 u0).bind (fun q => some (((v0.1 + (1 : Int32)) - (v0.1 + (1 : Int32)) / (14 : Int32) * (14 : Int32), if (14 : Int32) < v0.2 + (1 : Int32) then (14 : Int32) else v0.2 + (1 : Int32)), va_up v1 v0.1.toNatClampNeg (q.1, q.2, (v1 v0.1.toNatClampNeg).2.2)))
set_option maxRecDepth 100000 in
set_option maxHeartbeats 4000000 in
theorem c_X0_remember (l : Launch) (D : va_G) (cy : Nat → ClassId) (ad : (Nat → Nat) × (Nat → Nat)) (h0 h1 : Nat) (ta : TAd) (g0 g0r g0s g0c g0t : Nat) (v0 : HIv) (v1 : HRv) (w0 : TBv) (u0 : Fn) {q : HIv × HRv} (hf : f_X0_remember v0 v1 w0 u0 = some q) : CM l yX0_remember cX0_remember 3 none rmX0_remember D cy ad [.ref h0, .ref g0] [HI h0 h1 v0, HR cy h1 ta v1, TB cy g0 g0r g0s g0c w0, SU cy g0s g0t u0] none [HI h0 h1 q.1, HR cy h1 ta q.2, TB cy g0 g0r g0s g0c w0, SU cy g0s g0t u0] := by
  refine cm_of (lv0 := [(0, .ref h0), (1, .ref g0)]) (by decide) (Nat.le_of_ble_eq_true rfl) rfl ?_
  intro p e s m args below meth c A X hr hn
  have X : gK p s m args meth c A D cy ad cX0_remember 3 RX0 := X
  unfold f_X0_remember at hf
  obtain ⟨hi, hf⟩ := oguard hf
  obtain ⟨i1, i2, i3⟩ := i14 hi
  obtain ⟨q1, hq1, hf⟩ := obind hf
  refine g_aload_n X dX0_remember_0 0 rfl rfl ?_
  refine g_aload_n X dX0_remember_1 0 rfl rfl ?_
  refine g_get X dX0_remember_2 ck_X0 0 0 1 rfl rfl (Nat.le_of_ble_eq_true rfl) lkf_X0_18 rfl ?_
  refine g_callV (gs' := [HI h0 h1 v0, HR cy h1 ta v1, TB cy g0 g0r g0s g0c w0, SU cy g0s g0t u0]) (rest := []) X dX0_remember_5 (c_X0_placeAt l D cy ad h0 h1 ta v0 v1 v0.1 hi) mf_X0_placeAt mv_X0_placeAt lkm_X0_25 ⟨(Nat.le_of_ble_eq_true rfl), (Nat.le_of_ble_eq_true rfl), (Nat.le_of_ble_eq_true rfl), (Nat.le_of_ble_eq_true rfl)⟩ 0 0 rfl rfl rfl rfl [0, 1, 2, 3] _ (by decide : [0, 1, 2, 3].Perm (List.range 4)) rfl (by decide : [0, 1, 2, 3].Perm (List.range 4)) rfl (Nat.le_of_ble_eq_true rfl) rfl ?_
  refine g_astore_n (lv' := [(0, .ref h0), (1, .ref g0), (2, .ref (ta v0.1.toNatClampNeg).1)]) X dX0_remember_8 [1, 2, 0] rfl (Nat.le_of_ble_eq_true rfl) rfl ?_
  refine g_aload_n X dX0_remember_9 2 rfl rfl ?_
  refine g_ifnonnull X 14 dX0_remember_10 (by decide) ?_
  refine g_aload_n X dX0_remember_14 2 rfl rfl ?_
  refine g_aload_n X dX0_remember_15 1 rfl rfl ?_
  generalize hk : v0.1.toNatClampNeg = k at *
  refine g_fperm (gs' := [HI h0 h1 v0] ++ (HRk cy h1 ta v1 k (v1 k).1 (v1 k).2.1 (v1 k).2.2 ++ [TB cy g0 g0r g0s g0c w0, SU cy g0s g0t u0])) (fl_split (HR cy h1 ta v1) _ [HI h0 h1 v0] _ (HR_out v1 i3)) ?_
  refine g_callV (gs' := [HI h0 h1 v0] ++ (HRk cy h1 ta v1 k q1.1 q1.2 (v1 k).2.2 ++ [TB cy g0 g0r g0s g0c w0, SU cy g0s g0t u0])) (rest := []) X dX0_remember_16 (c_X4_copyFrom l D cy ad _ _ _ _ _ g0 g0r g0s g0c g0t _ _ w0 u0 hq1) mf_X4_copyFrom mv_X4_copyFrom lkm_X0_29 ⟨(Nat.le_of_ble_eq_true rfl), (Nat.le_of_ble_eq_true rfl), (Nat.le_of_ble_eq_true rfl), (Nat.le_of_ble_eq_true rfl)⟩ 2 0 rfl rfl rfl rfl [2, 3, 6, 7, 0, 1, 4, 5] _ (by decide : [2, 3, 6, 7, 0, 1, 4, 5].Perm (List.range 8)) rfl (by decide : [2, 3, 6, 7, 0, 1, 4, 5].Perm (List.range 8)) rfl (Nat.le_of_ble_eq_true rfl) rfl ?_
  refine g_fperm (gs' := [HI h0 h1 v0, HR cy h1 ta (va_up v1 k (q1.1, q1.2, (v1 k).2.2)), TB cy g0 g0r g0s g0c w0, SU cy g0s g0t u0]) (fl_split (HR cy h1 ta (va_up v1 k (q1.1, q1.2, (v1 k).2.2))) _ [HI h0 h1 v0] [TB cy g0 g0r g0s g0c w0, SU cy g0s g0t u0] (HR_in v1 i3 q1.1 q1.2 (v1 k).2.2).symm).symm ?_
  refine g_aload_n X dX0_remember_19 0 rfl rfl ?_
  refine g_aload_n X dX0_remember_20 0 rfl rfl ?_
  refine g_get X dX0_remember_21 ck_X0 0 0 1 rfl rfl (Nat.le_of_ble_eq_true rfl) lkf_X0_18 rfl ?_
  refine g_iconst X (1 : Int32) dX0_remember_24 (by decide) ?_
  refine g_iadd X dX0_remember_25 ?_
  refine g_bipush X (14 : Int32) dX0_remember_26 (by decide) ?_
  refine g_irem X dX0_remember_28 (by decide) ?_
  refine g_put (gs' := [HI h0 h1 ((v0.1 + (1 : Int32)) - (v0.1 + (1 : Int32)) / (14 : Int32) * (14 : Int32), v0.2), HR cy h1 ta (va_up v1 k (q1.1, q1.2, (v1 k).2.2)), TB cy g0 g0r g0s g0c w0, SU cy g0s g0t u0]) X dX0_remember_29 ck_X0 ct_X0 0 0 1 rfl rfl (Nat.le_of_ble_eq_true rfl) lkf_X0_18 rfl rfl rfl (Nat.le_of_ble_eq_true rfl) rfl ?_
  refine g_aload_n X dX0_remember_32 0 rfl rfl ?_
  refine g_aload_n X dX0_remember_33 0 rfl rfl ?_
  refine g_get X dX0_remember_34 ck_X0 0 0 2 rfl rfl (Nat.le_of_ble_eq_true rfl) lkf_X0_22 rfl ?_
  refine g_iconst X (1 : Int32) dX0_remember_37 (by decide) ?_
  refine g_iadd X dX0_remember_38 ?_
  refine g_bipush X (14 : Int32) dX0_remember_39 (by decide) ?_
  refine g_mmin X dX0_remember_41 lkm_X0_33 mw_min ⟨(Nat.le_of_ble_eq_true rfl), (Nat.le_of_ble_eq_true rfl), (Nat.le_of_ble_eq_true rfl), (Nat.le_of_ble_eq_true rfl)⟩ ?_
  refine g_put (gs' := [HI h0 h1 ((v0.1 + (1 : Int32)) - (v0.1 + (1 : Int32)) / (14 : Int32) * (14 : Int32), if (14 : Int32) < v0.2 + (1 : Int32) then (14 : Int32) else v0.2 + (1 : Int32)), HR cy h1 ta (va_up v1 k (q1.1, q1.2, (v1 k).2.2)), TB cy g0 g0r g0s g0c w0, SU cy g0s g0t u0]) X dX0_remember_44 ck_X0 ct_X0 0 0 2 rfl rfl (Nat.le_of_ble_eq_true rfl) lkf_X0_22 rfl rfl rfl (Nat.le_of_ble_eq_true rfl) rfl ?_
  have hf := Option.some.inj hf
  subst hf
  exact g_vret X hr dX0_remember_47
abbrev rmX0_takeBack : Room := ({ frames := 2, cells := 0, slots := 0, locals := 44 } : Room)
def hiLast (v0 : HIv) : Int32 := ((v0.1 + (14 : Int32)) - (1 : Int32)) - ((v0.1 + (14 : Int32)) - (1 : Int32)) / (14 : Int32) * (14 : Int32)
def f_X0_takeBack (v0 : HIv) (v1 : HRv) (w0 : TBv) (u0 : Fn) : Option (HIv × TBv × Fn) :=
  if hiLast v0 < 0 ∨ 14 ≤ (hiLast v0).toNatClampNeg then none else if 0 < v0.2 then (f_X4_copyFrom w0 u0 (v1 (hiLast v0).toNatClampNeg).1 (v1 (hiLast v0).toNatClampNeg).2.1).bind (fun q => some ((hiLast v0, v0.2 - (1 : Int32)), q.1, q.2)) else none
set_option maxRecDepth 100000 in
set_option maxHeartbeats 4000000 in
theorem c_X0_takeBack (l : Launch) (D : va_G) (cy : Nat → ClassId) (ad : (Nat → Nat) × (Nat → Nat)) (h0 h1 : Nat) (ta : TAd) (g0 g0r g0s g0c g0t : Nat) (v0 : HIv) (v1 : HRv) (w0 : TBv) (u0 : Fn) {q : HIv × TBv × Fn} (hf : f_X0_takeBack v0 v1 w0 u0 = some q) : CM l yX0_takeBack cX0_takeBack 4 none rmX0_takeBack D cy ad [.ref h0, .ref g0] [HI h0 h1 v0, HR cy h1 ta v1, TB cy g0 g0r g0s g0c w0, SU cy g0s g0t u0] none [HI h0 h1 q.1, HR cy h1 ta v1, TB cy g0 g0r g0s g0c q.2.1, SU cy g0s g0t q.2.2] := by
  refine cm_of (lv0 := [(0, .ref h0), (1, .ref g0)]) (by decide) (Nat.le_of_ble_eq_true rfl) rfl ?_
  intro p e s m args below meth c A X hr hn
  have X : gK p s m args meth c A D cy ad cX0_takeBack 4 RX0 := X
  unfold f_X0_takeBack at hf
  obtain ⟨hi, hf⟩ := oguard hf
  obtain ⟨i1, i2, i3⟩ := i14 hi
  by_cases hc : 0 < v0.2
  · have hf := opos hc hf
    obtain ⟨q1, hq1, hf⟩ := obind hf
    refine g_aload_n X dX0_takeBack_0 0 rfl rfl ?_
    refine g_get X dX0_takeBack_1 ck_X0 0 0 1 rfl rfl (Nat.le_of_ble_eq_true rfl) lkf_X0_18 rfl ?_
    refine g_bipush X (14 : Int32) dX0_takeBack_4 (by decide) ?_
    refine g_iadd X dX0_takeBack_6 ?_
    refine g_iconst X (1 : Int32) dX0_takeBack_7 (by decide) ?_
    refine g_isub X dX0_takeBack_8 ?_
    refine g_bipush X (14 : Int32) dX0_takeBack_9 (by decide) ?_
    refine g_irem X dX0_takeBack_11 (by decide) ?_
    refine g_istore_n (lv' := [(0, .ref h0), (1, .ref g0), (2, .int (hiLast v0))]) X dX0_takeBack_12 [1, 2, 0] rfl (Nat.le_of_ble_eq_true rfl) rfl ?_
    refine g_aload_n X dX0_takeBack_13 0 rfl rfl ?_
    refine g_iload_n X dX0_takeBack_14 2 rfl rfl ?_
    refine g_callV (gs' := [HI h0 h1 v0, HR cy h1 ta v1, TB cy g0 g0r g0s g0c w0, SU cy g0s g0t u0]) (rest := []) X dX0_takeBack_15 (c_X0_placeAt l D cy ad h0 h1 ta v0 v1 (hiLast v0) hi) mf_X0_placeAt mv_X0_placeAt lkm_X0_25 ⟨(Nat.le_of_ble_eq_true rfl), (Nat.le_of_ble_eq_true rfl), (Nat.le_of_ble_eq_true rfl), (Nat.le_of_ble_eq_true rfl)⟩ 0 0 rfl rfl rfl rfl [0, 1, 2, 3] _ (by decide : [0, 1, 2, 3].Perm (List.range 4)) rfl (by decide : [0, 1, 2, 3].Perm (List.range 4)) rfl (Nat.le_of_ble_eq_true rfl) rfl ?_
    refine g_astore_n (lv' := [(0, .ref h0), (1, .ref g0), (2, .int (hiLast v0)), (3, .ref (ta (hiLast v0).toNatClampNeg).1)]) X dX0_takeBack_18 [1, 2, 3, 0] rfl (Nat.le_of_ble_eq_true rfl) rfl ?_
    refine g_aload_n X dX0_takeBack_19 3 rfl rfl ?_
    refine g_ifnull X dX0_takeBack_20 ?_
    refine g_aload_n X dX0_takeBack_23 0 rfl rfl ?_
    refine g_get X dX0_takeBack_24 ck_X0 0 0 2 rfl rfl (Nat.le_of_ble_eq_true rfl) lkf_X0_22 rfl ?_
    refine g_if_gt X 31 dX0_takeBack_27 (by decide) (fun _ => ?_) (fun z => absurd hc z)
    refine g_aload_n X dX0_takeBack_31 1 rfl rfl ?_
    refine g_aload_n X dX0_takeBack_32 3 rfl rfl ?_
    obtain ⟨k, hk⟩ : ∃ k, k = (hiLast v0).toNatClampNeg := ⟨_, rfl⟩
    rw [← hk] at hq1 i3 ⊢
    refine g_fperm (gs' := [HI h0 h1 v0] ++ (HRk cy h1 ta v1 k (v1 k).1 (v1 k).2.1 (v1 k).2.2 ++ [TB cy g0 g0r g0s g0c w0, SU cy g0s g0t u0])) (fl_split (HR cy h1 ta v1) _ [HI h0 h1 v0] _ (HR_out v1 i3)) ?_
    refine g_callV (gs' := [HI h0 h1 v0] ++ (HRk cy h1 ta v1 k (v1 k).1 (v1 k).2.1 (v1 k).2.2 ++ [TB cy g0 g0r g0s g0c q1.1, SU cy g0s g0t q1.2])) (rest := []) X dX0_takeBack_33 (c_X4_copyFrom l D cy ad g0 g0r g0s g0c g0t _ _ _ _ _ w0 u0 _ _ hq1) mf_X4_copyFrom mv_X4_copyFrom lkm_X0_29 ⟨(Nat.le_of_ble_eq_true rfl), (Nat.le_of_ble_eq_true rfl), (Nat.le_of_ble_eq_true rfl), (Nat.le_of_ble_eq_true rfl)⟩ 6 0 rfl rfl rfl rfl [6, 7, 2, 3, 0, 1, 4, 5] _ (by decide : [6, 7, 2, 3, 0, 1, 4, 5].Perm (List.range 8)) rfl (by decide : [6, 7, 2, 3, 0, 1, 4, 5].Perm (List.range 8)) rfl (Nat.le_of_ble_eq_true rfl) rfl ?_
    refine g_fperm (gs' := [HI h0 h1 v0, HR cy h1 ta v1, TB cy g0 g0r g0s g0c q1.1, SU cy g0s g0t q1.2]) (fl_split (HR cy h1 ta v1) _ [HI h0 h1 v0] [TB cy g0 g0r g0s g0c q1.1, SU cy g0s g0t q1.2] (HR_out v1 i3)).symm ?_
    refine g_aload_n X dX0_takeBack_36 0 rfl rfl ?_
    refine g_iload_n X dX0_takeBack_37 2 rfl rfl ?_
    refine g_put (gs' := [HI h0 h1 (hiLast v0, v0.2), HR cy h1 ta v1, TB cy g0 g0r g0s g0c q1.1, SU cy g0s g0t q1.2]) X dX0_takeBack_38 ck_X0 ct_X0 0 0 1 rfl rfl (Nat.le_of_ble_eq_true rfl) lkf_X0_18 rfl rfl rfl (Nat.le_of_ble_eq_true rfl) rfl ?_
    refine g_aload_n X dX0_takeBack_41 0 rfl rfl ?_
    refine g_dup X dX0_takeBack_42 rfl ?_
    refine g_get X dX0_takeBack_43 ck_X0 0 0 2 rfl rfl (Nat.le_of_ble_eq_true rfl) lkf_X0_22 rfl ?_
    refine g_iconst X (1 : Int32) dX0_takeBack_46 (by decide) ?_
    refine g_isub X dX0_takeBack_47 ?_
    refine g_put (gs' := [HI h0 h1 (hiLast v0, v0.2 - (1 : Int32)), HR cy h1 ta v1, TB cy g0 g0r g0s g0c q1.1, SU cy g0s g0t q1.2]) X dX0_takeBack_48 ck_X0 ct_X0 0 0 2 rfl rfl (Nat.le_of_ble_eq_true rfl) lkf_X0_22 rfl rfl rfl (Nat.le_of_ble_eq_true rfl) rfl ?_
    have hf := Option.some.inj hf
    subst hf
    exact g_vret X hr dX0_takeBack_51
  · exact nomatch (oneg hc hf)
