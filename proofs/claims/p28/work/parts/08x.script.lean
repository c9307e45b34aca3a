/-! ===== long numbers ===== -/
abbrev i6 (n : Nat) : Int64 := Int64.ofNat n
theorem i6_int {a : Nat} (ha : a < 2 ^ 63) : (i6 a).toInt = a := Int64.toInt_ofNat_of_lt ha
theorem i6_eq {a b : Nat} (ha : a < 2 ^ 63) (hb : b < 2 ^ 63) : (i6 a = i6 b) ↔ a = b :=
  ⟨fun h => by
    have h2 := congrArg Int64.toInt h
    rw [i6_int ha, i6_int hb] at h2
    omega, fun h => h ▸ rfl⟩
theorem i6_mul (a b : Nat) : i6 a * i6 b = i6 (a * b) := (Int64.ofNat_mul a b).symm
theorem i6_sub {a b : Nat} (h : b ≤ a) : i6 a - i6 b = i6 (a - b) := (Int64.ofNat_sub a b h).symm
theorem i6_div {a b : Nat} (ha : a < 2 ^ 63) (hb : b < 2 ^ 63) : i6 a / i6 b = i6 (a / b) := by
  apply Int64.toInt.inj
  have hq : a / b < 2 ^ 63 := Nat.lt_of_le_of_lt (Nat.div_le_self a b) ha
  rw [Int64.toInt_div, i6_int ha, i6_int hb, i6_int hq]
  have key : ∀ q : Nat, q < 2 ^ 63 → ((q : Int)).bmod (2 ^ 64) = q := by
    intro q h
    rw [Int.bmod_eq_of_le (by omega) (by omega)]
  exact key _ hq
theorem i6_mod {a b : Nat} (ha : a < 2 ^ 63) (hb : b < 2 ^ 63) : i6 a - i6 a / i6 b * i6 b = i6 (a % b) := by
  rw [i6_div ha hb, i6_mul, i6_sub (Nat.div_mul_le_self a b)]
  congr 1
  have := Nat.div_add_mod a b
  rw [Nat.mul_comm] at this
  omega
theorem i6_32 (n : Nat) : (i6 n).toInt32 = i3 n := Int64.toInt32_ofNat'
theorem i6_of {x : Int64} (h : 0 ≤ x) : ∃ n : Nat, n < 2 ^ 63 ∧ x = i6 n := by
  have h2 : 0 ≤ x.toInt := Int64.le_iff_toInt_le.mp h
  have h3 : x.toInt < 2 ^ 63 := Int64.toInt_lt x
  refine ⟨x.toInt.toNat, by omega, ?_⟩
  apply Int64.toInt.inj
  rw [i6_int (by omega)]
  omega
theorem cmp_zero (x y : Int64) : lg_cmp x y = 0 ↔ x = y := by
  unfold lg_cmp
  by_cases h1 : x > y
  · rw [if_pos h1]
    refine ⟨fun h => absurd h (by decide), fun h => ?_⟩
    subst h
    rw [gt_iff_lt, Int64.lt_iff_toInt_lt] at h1
    omega
  · rw [if_neg h1]
    by_cases h2 : x = y
    · rw [if_pos h2]
      exact ⟨fun _ => h2, fun _ => rfl⟩
    · rw [if_neg h2]
      exact ⟨fun h => absurd h (by decide), fun h => absurd h h2⟩
theorem wG_step {s k i : Nat} (hs : s < 2 ^ 63) (hk : k < 100) (hi : i < k) : f_X7_withoutGroups_B5 (i3 k) (i6 (s / 100000 ^ i), i3 i) = some (.inl (i6 (s / 100000 ^ (i + 1)), i3 (i + 1))) := by
  have hq : s / 100000 ^ i < 2 ^ 63 := Nat.lt_of_le_of_lt (Nat.div_le_self _ _) hs
  unfold f_X7_withoutGroups_B5
  rw [if_neg (by rw [i3_le (by omega) (by omega)]; omega)]
  show some (Sum.inl (i6 (s / 100000 ^ i) / i6 100000, i3 i + i3 1)) = _
  rw [i6_div hq (by decide), i3_add, Nat.div_div_eq_div_mul, ← Nat.pow_succ]
theorem wG_eq {s k : Nat} (hs : s < 2 ^ 63) (hk : k < 100) : f_X7_withoutGroups (i6 s) (i3 k) = some (i6 (s / 100000 ^ k)) := by
  unfold f_X7_withoutGroups
  have hl := itl_for (f := f_X7_withoutGroups_B5 (i3 k)) (fun i => (i6 (s / 100000 ^ i), i3 i)) k (e := i6 (s / 100000 ^ k)) (by unfold FU; omega) (fun i hi => wG_step hs hk hi) (by
    unfold f_X7_withoutGroups_B5
    exact if_pos ((i3_le (by omega) (by omega)).mpr (Nat.le_refl _)))
  rw [show s / 100000 ^ 0 = s by rw [Nat.pow_zero, Nat.div_one]] at hl
  have hl' : itl (f_X7_withoutGroups_B5 (i3 k)) FU (i6 s, (0 : Int32)) = _ := hl
  rw [hl']
  rfl
/-! ===== what both ask of a coin, a pan, a weighing ===== -/
def TabX (tb : TBv) (su r : Fn) : Prop := ∃ c m, TabR c m tb su r
theorem hasCoin_eq {tb : TBv} {su r : Fn} {c m : Nat} (h : TabR c m tb su r) (x : Int32) : ∃ d : Bool, f_X4_hasCoin tb x = some d ∧ f_X8_isCoin r x = some d ∧ (d = true ↔ ∃ n, n < c ∧ x = i3 n) := by
  have hc : c < 13 := by have := h.1.1.2; omega
  have hc0 : 0 < c := by have := h.1.1.1; omega
  have n0 : (0 : Int32).toNatClampNeg = 0 := by decide
  have hm : i3 c - (1 : Int32) = i3 (c - 1) := i3_sub (a := c) (b := 1) hc0
  have hR : f_X8_isCoin r x = some (decide (0 ≤ x ∧ x ≤ i3 (c - 1))) := by
    unfold f_X8_isCoin
    rw [n0, h.1.2.2.2.1, hm]
    have h' : f_X8_in x.toInt64 (0 : Int64) (i3 (c - 1)).toInt64 = _ := in32 x 0 (i3 (c - 1))
    rw [h']
    rfl
  refine ⟨decide (0 ≤ x ∧ x ≤ i3 (c - 1)), ?_, hR, ?_⟩
  · unfold f_X4_hasCoin
    rw [h.2.1.1]
    rcases i3_cases x with hx | ⟨n, hn, rfl⟩
    · rw [if_pos hx, decide_eq_false]
      exact fun z => (nn_iff x).mpr z.1 hx
    · rw [if_neg (i3_nn hn)]
      by_cases hnc : n < c
      · rw [if_neg (by rw [i3_le (by omega) hn]; omega), decide_eq_true]
        exact ⟨(nn_iff _).mp (i3_nn hn), (i3_le hn (by omega)).mpr (by omega)⟩
      · rw [if_pos (by rw [i3_le (by omega) hn]; omega), decide_eq_false]
        rintro ⟨-, z⟩
        rw [i3_le hn (by omega)] at z
        omega
  · rw [decide_eq_true_iff]
    constructor
    · rintro ⟨z1, z2⟩
      obtain ⟨n, hn, rfl⟩ := i3_of z1
      rw [i3_le hn (by omega)] at z2
      exact ⟨n, by omega, rfl⟩
    · rintro ⟨n, hn, rfl⟩
      exact ⟨(nn_iff _).mp (i3_nn (by omega)), (i3_le (by omega) (by omega)).mpr (by omega)⟩
theorem canWR_eq {tb : TBv} {su r : Fn} {c m : Nat} (h : TabR c m tb su r) (a b : Int32) : ∃ d : Bool, f_X8_canWeigh r a b = some d ∧ (d = true ↔ WS c a b ∧ m < 20) := by
  have hc : c < 13 := by have := h.1.1.2; omega
  have hm : m ≤ 20 := h.1.2.1
  have n4 : (4 : Int32).toNatClampNeg = 4 := by decide
  obtain ⟨d, e1, e2⟩ := isWeighing_eq hc h.1.2.2.2.1 a b
  unfold f_X8_canWeigh
  rw [e1, Option.bind_some, n4, h.1.2.2.2.2]
  have e20 : ((20 : Int32) ≤ i3 m) ↔ 20 ≤ m := i3_le (by decide : 20 < 2 ^ 31) (by omega)
  cases d
  · rw [if_pos (by decide)]
    exact ⟨false, rfl, (fun z => nomatch z), fun z => nomatch (e2.mpr z.1)⟩
  · rw [if_neg (by decide)]
    by_cases h20 : 20 ≤ m
    · rw [if_pos (e20.mpr h20)]
      exact ⟨false, rfl, (fun z => nomatch z), fun z => by omega⟩
    · rw [if_neg (fun z => h20 (e20.mp z))]
      exact ⟨true, rfl, fun _ => ⟨e2.mp rfl, by omega⟩, fun _ => rfl⟩
/-- a weighing tried by both -/
theorem tryW_both {tb : TBv} {su r : Fn} {c m : Nat} (h : TabR c m tb su r) (sc : SCv) (a b : Int32) : ∃ d tb' su' sc', f_X4_tryWeighing tb su sc a b = some (d, tb', su', sc') ∧ f_X8_canWeigh r a b = some d ∧ ((d = false ∧ TabX tb' su' r) ∨ (d = true ∧ ∃ o r', f_X8_weighOn r a b = some (o, r') ∧ 0 ≤ o ∧ TabX tb' su' r')) := by
  obtain ⟨d, e1, e2⟩ := canWR_eq h a b
  cases d
  · have hn : ¬ (WS c a b ∧ m < 20) := fun z => nomatch (e2.mpr z)
    exact ⟨false, tb, su, sc, tryWeighing_no h hn, e1, Or.inl ⟨rfl, c, m, h⟩⟩
  · obtain ⟨hw, hm⟩ := e2.mp rfl
    obtain ⟨tb', su', sc', r', o, k1, k2, k3, -, k4⟩ := tryWeighing_yes h hw hm
    exact ⟨true, tb', su', sc', k1 sc, e1, Or.inr ⟨rfl, o, r', k2, k4, c, m + 1, k3⟩⟩
theorem tryF_both {tb : TBv} {su r : Fn} {c m : Nat} (h : TabR c m tb su r) (sc : SCv) : ∃ d tb' su' sc', f_X4_tryForgetting tb su sc = some (d, tb', su', sc') ∧ ((d = false ∧ r 4 ≤ 0 ∧ TabX tb' su' r) ∨ (d = true ∧ ¬ r 4 ≤ 0 ∧ ∃ o r', f_X8_forgetOn r = some (o, r') ∧ 0 ≤ o ∧ TabX tb' su' r')) := by
  have hm : m ≤ 20 := h.1.2.1
  have h4 := h.1.2.2.2.2
  cases m with
  | zero => exact ⟨false, tb, su, sc, tryForgetting_no h, Or.inl ⟨rfl, by rw [h4]; decide, c, 0, h⟩⟩
  | succ m =>
    obtain ⟨tb', su', sc', r', k1, k2, k3, -⟩ := tryForgetting_yes (sc := sc) h
    refine ⟨true, tb', su', sc', k1, Or.inr ⟨rfl, ?_, i3 m, r', k2, (nn_iff _).mp (i3_nn (by omega)), c, m, k3⟩⟩
    rw [h4]
    show ¬ i3 (m + 1) ≤ i3 0
    rw [i3_le (by omega) (by decide)]
    omega
theorem tryA_both {tb : TBv} {su r : Fn} {c m : Nat} (h : TabR c m tb su r) (x y : Int32) : ∃ d tb', f_X4_tryArms tb x y = some (d, tb') ∧ f_X8_isArms x y = some d ∧ ((d = false ∧ TabX tb' su r) ∨ (d = true ∧ ∃ o r', f_X8_armsOn r x y = some (o, r') ∧ 0 ≤ o ∧ o = (if x = y then (1 : Int32) else 0) ∧ TabX tb' su r')) := by
  obtain ⟨d, e1, e2⟩ := isArms_eq x y
  cases d
  · have hn : ¬ (okA x ∧ okA y) := fun z => nomatch (e2.mpr z)
    exact ⟨false, tb, tryArms_no hn, e1, Or.inl ⟨rfl, c, m, h⟩⟩
  · obtain ⟨tb', r', k1, k2, k3⟩ := tryArms_yes h (e2.mp rfl)
    refine ⟨true, tb', k1, e1, Or.inr ⟨rfl, _, r', k2, ?_, rfl, c, m, k3⟩⟩
    by_cases hxy : x = y
    · rw [if_pos hxy]; decide
    · rw [if_neg hxy]; decide
theorem nn_not {x : Int32} (h : 0 ≤ x) : ¬ x < 0 := (nn_iff x).mpr h
theorem b2i_1 (d : Bool) : (b2i d = (1 : Int32)) ↔ d = true := by cases d <;> decide
theorem bfF : b2i false = 0 := by decide
theorem bfT : ¬ b2i true = 0 := by decide
