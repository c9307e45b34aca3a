/-! ===== the states that are remembered ===== -/
abbrev mA (u : MOv) (a : Int32) : MOv := (u.1, u.2.1, a, u.2.2.2.1, u.2.2.2.2.1, u.2.2.2.2.2)
def HisK (nx k : Nat) (vr : HRv) (d : Fn) : Prop := nx < 14 ∧ k ≤ 14 ∧ ∀ j, j < k → TabX (vr ((nx + 14 - k + j) % 14)).1 (vr ((nx + 14 - k + j) % 14)).2.1 (fun t => d (107 * j + t))
def HisR (vh : HIv) (vr : HRv) (acts : Int32) (d : Fn) : Prop := ∃ nx k, vh = (i3 nx, i3 k) ∧ acts = i3 k ∧ HisK nx k vr d
theorem TabX.ext {tb : TBv} {su r r' : Fn} (h : TabX tb su r) (e : ∀ j, j < 107 → r' j = r j) : TabX tb su r' := by
  obtain ⟨c, m, h⟩ := h
  exact ⟨c, m, h.ext e⟩
theorem his_clear (vr : HRv) (d : Fn) : HisR (0, 0) vr 0 d := ⟨0, 0, rfl, rfl, by decide, by decide, fun j hj => absurd hj (Nat.not_lt_zero j)⟩
theorem up_at {α : Type} (f : Nat → α) (k : Nat) (v : α) : va_up f k v k = v := by
  unfold va_up
  exact if_pos rfl
theorem up_ne {α : Type} (f : Nat → α) (k : Nat) (v : α) {j : Nat} (h : j ≠ k) : va_up f k v j = f j := by
  unfold va_up
  exact if_neg h
theorem rem_shift (u : MOv) (r d : Fn) : itl (f_X8_remember_B11 u r) FU ((0 : Int32), d) = some (fun t => if t < 1391 then d (t + 107) else d t) := by
  have hl := itl_for (f := f_X8_remember_B11 u r) (fun i => (i3 i, fun t => if t < i then (fun q => d (q + 107)) t else d t)) 1391 (e := fun t => if t < 1391 then (fun q => d (q + 107)) t else d t) (by decide) (fun i hi => by
    have e1 : i3 i + (107 : Int32) = i3 (i + 107) := i3_add i 107
    have e2 : i3 i + (1 : Int32) = i3 (i + 1) := i3_add i 1
    unfold f_X8_remember_B11
    rw [if_neg (by show ¬ i3 1391 ≤ i3 i; rw [i3_le (by decide) (by omega)]; omega), e1, e2, if_neg (i3_in (by omega) (by decide)), if_neg (i3_in (by omega) (by decide)), i3_nat (by omega), i3_nat (by omega)]
    have hu := upd_if (fun q => d (q + 107)) d i
    have hv : (if i + 107 < i then d (i + 107 + 107) else d (i + 107)) = d (i + 107) := if_neg (by omega)
    show some (Sum.inl (i3 (i + 1), upd (fun t => if t < i then d (t + 107) else d t) i (if i + 107 < i then d (i + 107 + 107) else d (i + 107)))) = _
    rw [hv]
    exact congrArg (fun z => some (Sum.inl (i3 (i + 1), z))) hu) (by
    unfold f_X8_remember_B11
    exact if_pos (by decide : (1391 : Int32) ≤ i3 1391))
  rw [if0] at hl
  exact hl
/-- the diary's rows behind the oldest one is dropped -/
theorem his_drop {nx : Nat} {vr : HRv} {d : Fn} (h : HisK nx 14 vr d) : HisK nx 13 vr (fun t => if t < 1391 then d (t + 107) else d t) := by
  refine ⟨h.1, by decide, fun j hj => ?_⟩
  have h1 := h.2.2 (j + 1) (by omega)
  rw [show (nx + 14 - 13 + j) % 14 = (nx + 14 - 14 + (j + 1)) % 14 by omega]
  refine h1.ext (fun t ht => ?_)
  show (if 107 * j + t < 1391 then d (107 * j + t + 107) else d (107 * j + t)) = d (107 * (j + 1) + t)
  rw [if_pos (by omega)]
  congr 1
  omega
theorem his_add {nx k : Nat} {vr : HRv} {d r : Fn} {tb : TBv} {su : Fn} {sc : SCv} (h : HisK nx k vr d) (hk : k < 14) (hT : TabX tb su r) : HisK ((nx + 1) % 14) (k + 1) (va_up vr nx (tb, su, sc)) (cpR r d 0 (107 * k) 107) := by
  obtain ⟨h1, h2, h3⟩ := h
  refine ⟨Nat.mod_lt _ (by decide), hk, fun j hj => ?_⟩
  by_cases hjk : j = k
  · subst hjk
    rw [show ((nx + 1) % 14 + 14 - (j + 1) + j) % 14 = nx by omega, up_at]
    refine hT.ext (fun t ht => ?_)
    unfold cpR
    rw [if_pos (by omega)]
    congr 1
    omega
  · rw [show ((nx + 1) % 14 + 14 - (k + 1) + j) % 14 = (nx + 14 - k + j) % 14 by omega, up_ne _ _ _ (by omega)]
    refine (h3 j (by omega)).ext (fun t ht => ?_)
    unfold cpR
    rw [if_neg (by omega)]
theorem rem49 {u : MOv} {r d : Fn} {k : Nat} (hu : u.2.2.1 = i3 k) (hk : k < 14) : f_X8_remember_b49 u r d = some (mA u (i3 (k + 1)), cpR r d 0 (107 * k) 107) := by
  unfold f_X8_remember_b49
  have e : (107 : Int32) * i3 k = i3 (107 * k) := i3_mul 107 k
  have e1 : i3 k + (1 : Int32) = i3 (k + 1) := i3_add k 1
  rw [hu, e, e1]
  have hc : f_X8_copyState 107 1498 r d (0 : Int32) (i3 (107 * k)) = _ := copyR_eq (p := 0) (q := 107 * k) (by decide) (by omega) (by decide) (by decide)
  rw [hc]
  rfl
theorem remember_both {vh : HIv} {vr : HRv} {u : MOv} {d r : Fn} {tb : TBv} {su : Fn} (h : HisR vh vr u.2.2.1 d) (hT : TabX tb su r) : ∃ vh' vr' a' d', f_X0_remember vh vr tb su = some (vh', vr') ∧ f_X8_remember u r d = some (mA u a', d') ∧ HisR vh' vr' a' d' := by
  obtain ⟨nx, k, rfl, hu, hK⟩ := h
  have hnx := hK.1
  have hk := hK.2.1
  obtain ⟨tb', su', k1, k2⟩ := cpT hT (vr nx).1 (vr nx).2.1
  have e1 : i3 nx + (1 : Int32) - (i3 nx + (1 : Int32)) / (14 : Int32) * (14 : Int32) = i3 ((nx + 1) % 14) := by
    rw [show i3 nx + (1 : Int32) = i3 (nx + 1) from i3_add nx 1]
    exact i3_mod (by omega) (by decide : 14 < 2 ^ 31)
  have e2 : i3 k + (1 : Int32) = i3 (k + 1) := i3_add k 1
  have C1 : f_X0_remember (i3 nx, i3 k) vr tb su = some ((i3 ((nx + 1) % 14), if (14 : Int32) < i3 (k + 1) then (14 : Int32) else i3 (k + 1)), va_up vr nx (tb', su', (vr nx).2.2)) := by
    unfold f_X0_remember
    show (if i3 nx < 0 ∨ 14 ≤ (i3 nx).toNatClampNeg then none else (f_X4_copyFrom (vr (i3 nx).toNatClampNeg).1 (vr (i3 nx).toNatClampNeg).2.1 tb su).bind _) = _
    rw [if_neg (i3_in hnx (by decide)), i3_nat (by omega), k1, Option.bind_some, e1, e2]
  have l14 : ((14 : Int32) < i3 (k + 1)) ↔ 14 < k + 1 := i3_lt (by decide : 14 < 2 ^ 31) (by omega)
  have q14 : (i3 k = (14 : Int32)) ↔ k = 14 := i3_eq (by omega) (by decide : 14 < 2 ^ 31)
  by_cases hk14 : k = 14
  · subst hk14
    rw [if_pos (l14.mpr (by decide))] at C1
    refine ⟨_, _, i3 14, _, C1, ?_, (nx + 1) % 14, 14, rfl, rfl, his_add (his_drop hK) (by decide) k2⟩
    unfold f_X8_remember
    rw [hu, if_pos (show i3 14 = (14 : Int32) from rfl), rem_shift, Option.bind_some]
    have e13 : i3 14 - (1 : Int32) = i3 13 := i3_sub (a := 14) (b := 1) (by decide)
    rw [e13]
    exact rem49 (u := (u.1, u.2.1, i3 13, u.2.2.2.1, u.2.2.2.2.1, u.2.2.2.2.2)) (k := 13) rfl (by decide)
  · rw [if_neg (fun z => by have := l14.mp z; omega)] at C1
    refine ⟨_, _, i3 (k + 1), _, C1, ?_, (nx + 1) % 14, k + 1, rfl, rfl, his_add hK (by omega) k2⟩
    unfold f_X8_remember
    rw [hu, if_neg (fun z => hk14 (q14.mp z))]
    exact rem49 hu (by omega)
theorem last_eq {nx : Nat} (hnx : nx < 14) (x : Int32) : hiLast (i3 nx, x) = i3 ((nx + 13) % 14) := by
  unfold hiLast
  have e : i3 nx + (14 : Int32) - (1 : Int32) = i3 (nx + 13) := by
    rw [show i3 nx + (14 : Int32) = i3 (nx + 14) from i3_add nx 14]
    exact i3_sub (a := nx + 14) (b := 1) (by omega)
  show i3 nx + (14 : Int32) - (1 : Int32) - (i3 nx + (14 : Int32) - (1 : Int32)) / (14 : Int32) * (14 : Int32) = _
  rw [e]
  exact i3_mod (by omega) (by decide : 14 < 2 ^ 31)
theorem undo_eq {vh : HIv} {vr : HRv} {u : MOv} {d r : Fn} {tb : TBv} {su : Fn} (h : HisR vh vr u.2.2.1 d) (hT : TabX tb su r) (vo : FnL) : ∃ k tb' su' vh' w b u' r', f_W_undo tb su vh vr vo = some (k, tb', su', vh', w) ∧ f_X8_undo u r d = some (b, u', r') ∧ u'.1 = k ∧ u'.2.1 = u.2.1 ∧ (k = 0 → w 0 = b.toInt64) ∧ TabX tb' su' r' ∧ HisR vh' vr u'.2.2.1 d := by
  obtain ⟨nx, k, rfl, hu, hK⟩ := h
  have hnx := hK.1
  have hk := hK.2.1
  have l0 : ((0 : Int32) < i3 k) ↔ 0 < k := i3_lt (by decide : 0 < 2 ^ 31) (by omega)
  have q0 : (i3 k = 0) ↔ k = 0 := i3_eq (by omega) (by decide : 0 < 2 ^ 31)
  by_cases hk0 : k = 0
  · subst hk0
    refine ⟨2 - 1, tb, su, (i3 nx, i3 0), vo, 0, mK u 1, r, ?_, ?_, rfl, rfl, fun z => absurd z (by decide), hT, nx, 0, rfl, hu, hK⟩
    · unfold f_W_undo f_X7_undo
      rw [if_neg (show ¬ (0 : Int32) < i3 0 by decide)]
      rfl
    · unfold f_X8_undo f_X8_undo_b13
      rw [hu, if_pos (show i3 0 = 0 from rfl), refuseB, Option.bind_some, if_neg bfT]
      rfl
  · have hrow := hK.2.2 (k - 1) (by omega)
    rw [show (nx + 14 - k + (k - 1)) % 14 = (nx + 13) % 14 by omega] at hrow
    obtain ⟨tb', su', k1, k2⟩ := cpT hrow tb su
    have e1 : i3 k - (1 : Int32) = i3 (k - 1) := i3_sub (a := k) (b := 1) (by omega)
    have e2 : (107 : Int32) * i3 (k - 1) = i3 (107 * (k - 1)) := i3_mul 107 (k - 1)
    have hl : (nx + 13) % 14 < 14 := Nat.mod_lt _ (by decide)
    have C1 : f_X0_takeBack (i3 nx, i3 k) vr tb su = some ((i3 ((nx + 13) % 14), i3 (k - 1)), tb', su') := by
      unfold f_X0_takeBack
      rw [last_eq hnx, if_neg (i3_in hl (by decide)), i3_nat (by omega)]
      show (if (0 : Int32) < i3 k then _ else _) = _
      rw [if_pos (l0.mpr (by omega)), k1, Option.bind_some]
      show some ((i3 ((nx + 13) % 14), i3 k - (1 : Int32)), tb', su') = _
      rw [e1]
    refine ⟨0, tb', su', (i3 ((nx + 13) % 14), i3 (k - 1)), _, i3 (k - 1), mA (mK u 0) (i3 (k - 1)), cpR d r (107 * (k - 1)) 0 107, ?_, ?_, rfl, rfl, fun _ => vo_0 vo _, ?_, (nx + 13) % 14, k - 1, rfl, rfl, hl, by omega, fun j hj => ?_⟩
    · unfold f_W_undo f_X7_undo
      show ((if (0 : Int32) < i3 k then (f_X0_takeBack (i3 nx, i3 k) vr tb su).bind _ else _).bind _ : Option _) = _
      rw [if_pos (l0.mpr (by omega)), C1]
      rfl
    · unfold f_X8_undo f_X8_undo_b13
      rw [hu, if_neg (fun z => hk0 (q0.mp z)), refuseB, Option.bind_some, if_pos bfF]
      show (f_X8_copyState 1498 107 d r ((107 : Int32) * (u.2.2.1 - (1 : Int32))) (0 : Int32)).bind _ = _
      rw [hu, e1, e2]
      have hc : f_X8_copyState 1498 107 d r (i3 (107 * (k - 1))) (0 : Int32) = _ := copyR_eq (p := 107 * (k - 1)) (q := 0) (by omega) (by decide) (by decide) (by decide)
      rw [hc, Option.bind_some]
      rfl
    · refine k2.ext (fun t ht => ?_)
      unfold cpR
      rw [if_pos (by omega)]
      rfl
    · rw [show ((nx + 13) % 14 + 14 - (k - 1) + j) % 14 = (nx + 14 - k + j) % 14 by omega]
      exact hK.2.2 j (by omega)
