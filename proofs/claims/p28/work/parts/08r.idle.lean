/-! ===== idle weighings ===== -/
def iq (r : Fn) (c i : Nat) : Nat := (decide (nP (PR r c i) = nP (PR r c (i + 1)))).toNat
theorem nP_le (P : Nat → Bool) : nP P < 79 := by have := sm_bool (p := P) (n := 78); unfold nP; omega
theorem nP_0 (r : Fn) {c : Nat} (hc : c < 13) : nP (PR r c 0) = nC c := by
  have h75 := nC_lt hc
  unfold nP
  rw [PR_sm r hc 0]
  have : ∀ n, sm (fun k => (fitB r 0 k).toNat) n = n := by
    intro n
    induction n with
    | zero => rfl
    | succ n ih => show sm _ n + 1 = _; rw [ih]
  exact this _
theorem idleC_step {tb : TBv} {su r : Fn} {c m i n : Nat} (h : TabR c m tb su r) (hi : i < m) : f_X4_idleWeighings_B9 tb (i3 n, i3 (nP (PR r c i)), i3 i) = some (.inl (i3 (n + iq r c i), i3 (nP (PR r c (i + 1))), i3 (i + 1))) := by
  have hm : m ≤ 20 := h.1.2.1
  have l1 := nP_le (PR r c i)
  have l2 := nP_le (PR r c (i + 1))
  unfold f_X4_idleWeighings_B9 f_X4_idleWeighings_B9_b34
  rw [h.2.1.2.2.2.2.2.2, if_neg (by show ¬ i3 m ≤ i3 i; rw [i3_le (by omega) (by omega)]; omega)]
  rw [show f_X4_kept tb (i3 i) (5 : Int32) = some (i3 (nP (PR r c (i + 1)))) from (kept_rd (j := 5) (by omega) (by decide)).trans (congrArg some (h.2.2.1.2 i hi)), Option.bind_some]
  show (if i3 (nP (PR r c (i + 1))) = i3 (nP (PR r c i)) then some (Sum.inl (i3 n + i3 1, _, i3 i + i3 1)) else some (Sum.inl (i3 n, _, i3 i + i3 1)) : Option ((Int32 × Int32 × Int32) ⊕ Int32)) = _
  rw [i3_add, i3_add]
  unfold iq
  by_cases e : nP (PR r c i) = nP (PR r c (i + 1))
  · rw [if_pos (by rw [e]), decide_eq_true e]; rfl
  · rw [if_neg (fun z => e ((i3_eq (by omega) (by omega)).mp z).symm), decide_eq_false e]; rfl
theorem idleC_eq {tb : TBv} {su r : Fn} {c m : Nat} (h : TabR c m tb su r) : f_X4_idleWeighings tb = some (i3 (sm (iq r c) m)) := by
  have hc : c < 13 := by have := h.1.1.2; omega
  have hm : m ≤ 20 := h.1.2.1
  unfold f_X4_idleWeighings f_X4_allCases
  rw [h.2.1.1, casesOf_eq, Option.bind_some, Option.bind_some, ← nP_0 r hc]
  have hl := itl_for (f := f_X4_idleWeighings_B9 tb) (fun i => (i3 (sm (iq r c) i), i3 (nP (PR r c i)), i3 i)) m (e := i3 (sm (iq r c) m)) (by unfold FU; omega) (fun i hi => idleC_step h hi) (by
    unfold f_X4_idleWeighings_B9
    rw [h.2.1.2.2.2.2.2.2, if_pos (by show i3 m ≤ i3 m; rw [i3_le (by omega) (by omega)]; exact Nat.le_refl _)])
  have hl' : itl (f_X4_idleWeighings_B9 tb) FU ((0 : Int32), i3 (nP (PR r c 0)), (0 : Int32)) = _ := hl
  rw [hl']
  rfl
theorem idleR_step {tb : TBv} {su r : Fn} {c m i n : Nat} {v0 : MOv} (h : TabR c m tb su r) (hi : i < m) : f_X8_about_B113 v0 r (i3 n, i3 i) = some (.inl (i3 (n + iq r c i), i3 (i + 1))) := by
  have hc : c < 13 := by have := h.1.1.2; omega
  have hm : m ≤ 20 := h.1.2.1
  have n4 : (4 : Int32).toNatClampNeg = 4 := by decide
  have l1 := nP_le (PR r c i)
  have l2 := nP_le (PR r c (i + 1))
  have hR : ∀ n, n ≤ m → RowS r n := fun n hn j hj => h.rows j (by omega)
  unfold f_X8_about_B113 f_X8_about_B113_b150
  rw [n4, h.1.2.2.2.2, if_neg (by show ¬ i3 m ≤ i3 i; rw [i3_le (by omega) (by omega)]; omega), many_PR (hR i (by omega)) (by omega) h.1.2.2.2.1 hc, Option.bind_some]
  rw [show i3 i + (1 : Int32) = i3 (i + 1) from i3_add i 1, many_PR (hR (i + 1) (by omega)) (by omega) h.1.2.2.2.1 hc, Option.bind_some]
  show (if i3 (nP (PR r c i)) = i3 (nP (PR r c (i + 1))) then some (Sum.inl (i3 n + b2i true, i3 (i + 1))) else some (Sum.inl (i3 n + b2i false, i3 (i + 1))) : Option ((Int32 × Int32) ⊕ Int32)) = _
  rw [b2i_val, b2i_val, i3_add, i3_add]
  unfold iq
  by_cases e : nP (PR r c i) = nP (PR r c (i + 1))
  · rw [if_pos (by rw [e]), decide_eq_true e]
  · rw [if_neg (fun z => e ((i3_eq (by omega) (by omega)).mp z)), decide_eq_false e]
theorem idleR_eq {tb : TBv} {su r : Fn} {c m : Nat} (v0 : MOv) (h : TabR c m tb su r) : itl (f_X8_about_B113 v0 r) FU ((0 : Int32), (0 : Int32)) = some (i3 (sm (iq r c) m)) := by
  have hm : m ≤ 20 := h.1.2.1
  have n4 : (4 : Int32).toNatClampNeg = 4 := by decide
  exact itl_for (f := f_X8_about_B113 v0 r) (fun i => (i3 (sm (iq r c) i), i3 i)) m (by unfold FU; omega) (fun i hi => idleR_step h hi) (by
    unfold f_X8_about_B113
    rw [n4, h.1.2.2.2.2, if_pos (by show i3 m ≤ i3 m; rw [i3_le (by omega) (by omega)]; exact Nat.le_refl _)])
