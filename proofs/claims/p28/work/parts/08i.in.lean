/-! ===== ranges, and sets that can be weighed ===== -/
theorem cmp_neg (x y : Int64) : lg_cmp x y < 0 ↔ x < y := by
  unfold lg_cmp
  by_cases h1 : x > y
  · rw [if_pos h1]
    refine ⟨fun h => absurd h (by decide), fun h => ?_⟩
    rw [gt_iff_lt, Int64.lt_iff_toInt_lt] at h1
    rw [Int64.lt_iff_toInt_lt] at h
    omega
  · rw [if_neg h1]
    by_cases h2 : x = y
    · rw [if_pos h2]
      subst h2
      refine ⟨fun h => absurd h (by decide), fun h => ?_⟩
      rw [Int64.lt_iff_toInt_lt] at h
      omega
    · rw [if_neg h2]
      refine ⟨fun _ => ?_, fun _ => by decide⟩
      rw [gt_iff_lt, Int64.lt_iff_toInt_lt] at h1
      rw [Int64.lt_iff_toInt_lt]
      have h3 : x.toInt ≠ y.toInt := fun z => h2 (Int64.toInt.inj z)
      omega
theorem cmp_pos (x y : Int64) : 0 < lg_cmp x y ↔ y < x := by
  unfold lg_cmp
  by_cases h1 : x > y
  · rw [if_pos h1]
    exact ⟨fun _ => h1, fun _ => by decide⟩
  · rw [if_neg h1]
    refine ⟨fun h => ?_, fun h => absurd h h1⟩
    by_cases h2 : x = y
    · rw [if_pos h2] at h; exact absurd h (by decide)
    · rw [if_neg h2] at h; exact absurd h (by decide)
theorem in_eq (x y z : Int64) : f_X8_in x y z = some (decide (y ≤ x ∧ x ≤ z)) := by
  have e : ∀ a b : Int64, ¬ a < b ↔ b ≤ a := fun a b => by
    rw [Int64.lt_iff_toInt_lt, Int64.le_iff_toInt_le]
    omega
  unfold f_X8_in
  by_cases h1 : x < y
  · rw [if_pos ((cmp_neg x y).mpr h1), decide_eq_false]
    rintro ⟨h2, -⟩
    exact absurd h1 ((e x y).mpr h2)
  · rw [if_neg (fun h => h1 ((cmp_neg x y).mp h))]
    by_cases h2 : z < x
    · rw [if_pos ((cmp_pos x z).mpr h2), decide_eq_false]
      rintro ⟨-, h3⟩
      exact absurd h2 ((e z x).mpr h3)
    · rw [if_neg (fun h => h2 ((cmp_pos x z).mp h)), decide_eq_true]
      exact ⟨(e x y).mp h1, (e z x).mp h2⟩
theorem in32 (x y z : Int32) : f_X8_in x.toInt64 y.toInt64 z.toInt64 = some (decide (y ≤ x ∧ x ≤ z)) := by
  rw [in_eq]
  simp only [Int32.toInt64_le]
theorem i3_cases (x : Int32) : x < 0 ∨ ∃ n : Nat, n < 2 ^ 31 ∧ x = i3 n := by
  by_cases h : 0 ≤ x
  · exact Or.inr (i3_of h)
  · refine Or.inl ?_
    rw [Int32.le_iff_toInt_le] at h
    rw [Int32.lt_iff_toInt_lt]
    omega
theorem nn_iff (x : Int32) : ¬ x < 0 ↔ 0 ≤ x := by
  rw [Int32.lt_iff_toInt_lt, Int32.le_iff_toInt_le]
  omega
theorem lt_iff (x y : Int32) : ¬ x < y ↔ y ≤ x := by
  rw [Int32.lt_iff_toInt_lt, Int32.le_iff_toInt_le]
  omega
theorem le_iff' (x y : Int32) : ¬ x ≤ y ↔ y < x := by
  rw [Int32.lt_iff_toInt_lt, Int32.le_iff_toInt_le]
  omega
/-- a set of some of c coins -/
def SetC (c : Nat) (x : Int32) : Prop := ∀ b, c ≤ b → bt x b = false
theorem SetC.sm {c : Nat} {x : Int32} (h : SetC c x) (hc : c < 13) : Sm x := fun b hb => h b (by omega)
theorem SetC.b12 {c : Nat} {x : Int32} (h : SetC c x) (hc : c < 13) : bt x 12 = false := h 12 (by omega)
theorem bt_i3 {n b : Nat} (hn : n < 2 ^ 31) : bt (i3 n) b = n.testBit b := by
  show (BitVec.ofNat 32 n).getLsbD b = _
  unfold BitVec.getLsbD
  rw [BitVec.toNat_ofNat, Nat.mod_eq_of_lt (by omega)]
theorem SetC.of {c : Nat} {x : Int32} (hc : c < 13) (h : SetC c x) : ∃ n, n < 2 ^ c ∧ x = i3 n := by
  have h1 : x.toBitVec.toNat < 2 ^ c := Nat.lt_pow_two_of_testBit _ (fun i hi => h i hi)
  refine ⟨x.toBitVec.toNat, h1, ?_⟩
  have h2 : 2 ^ c ≤ 2 ^ 13 := Nat.pow_le_pow_right (by decide) (by omega)
  apply Int32.toBitVec_inj.1
  apply BitVec.eq_of_toNat_eq
  show _ = (BitVec.ofNat 32 _).toNat
  rw [BitVec.toNat_ofNat, Nat.mod_eq_of_lt (by omega)]
theorem SetC.mk {c n : Nat} (hc : c < 13) (hn : n < 2 ^ c) : SetC c (i3 n) := by
  have h2 : 2 ^ c ≤ 2 ^ 13 := Nat.pow_le_pow_right (by decide) (by omega)
  intro b hb
  rw [bt_i3 (by omega)]
  exact Nat.testBit_lt_two_pow (Nat.lt_of_lt_of_le hn (Nat.pow_le_pow_right (by decide) hb))
theorem mask_eq : ∀ c, c < 13 → ((1 : Int32) <<< (i3 c &&& 31)) - (1 : Int32) = i3 (2 ^ c - 1) := by decide
theorem mask_bt : ∀ c, c < 13 → ∀ b, b < 32 → bt (i3 (2 ^ c - 1)) b = decide (b < c) := by decide +kernel
theorem setC_range {c : Nat} (hc : c < 13) (x : Int32) : (0 ≤ x ∧ x ≤ i3 (2 ^ c - 1)) ↔ SetC c x := by
  have h2 : 2 ^ c ≤ 2 ^ 13 := Nat.pow_le_pow_right (by decide) (by omega)
  have h3 : 0 < 2 ^ c := Nat.pow_pos (by decide)
  constructor
  · rintro ⟨h, h4⟩
    obtain ⟨n, hn, rfl⟩ := i3_of h
    rw [i3_le hn (by omega)] at h4
    exact SetC.mk hc (by omega)
  · intro h
    obtain ⟨n, hn, rfl⟩ := h.of hc
    exact ⟨(nn_iff _).mp (i3_nn (by omega)), (i3_le (by omega) (by omega)).mpr (by omega)⟩
theorem setC_mask {c : Nat} (hc : c < 13) (x : Int32) : (x &&& ((((1 : Int32) <<< (i3 c &&& 31)) - (1 : Int32)) ^^^ (-1 : Int32))) = 0 ↔ SetC c x := by
  rw [mask_eq c hc, and_zero_iff]
  constructor
  · intro h b hb
    by_cases hb32 : b < 32
    · cases hx : bt x b
      · rfl
      · exact absurd ⟨hx, by rw [bt_not hb32, mask_bt c hc b hb32, decide_eq_false (by omega)]; rfl⟩ (h b)
    · exact bt_ge (by omega)
  · rintro h j ⟨h1, h4⟩
    by_cases hj : j < c
    · rw [bt_not (by omega), mask_bt c hc j (by omega), decide_eq_true hj] at h4
      exact nomatch h4
    · rw [h j (by omega)] at h1
      exact nomatch h1
theorem SetC.or_iff {c : Nat} {a b : Int32} : SetC c (a ||| b) ↔ SetC c a ∧ SetC c b := by
  constructor
  · intro h
    refine ⟨fun k hk => ?_, fun k hk => ?_⟩
    · have h1 := h k hk
      rw [bt_or] at h1
      exact (Bool.or_eq_false_iff.mp h1).1
    · have h1 := h k hk
      rw [bt_or] at h1
      exact (Bool.or_eq_false_iff.mp h1).2
  · rintro ⟨h1, h2⟩ k hk
    rw [bt_or, h1 k hk, h2 k hk]
    rfl
/-- can it be weighed -/
def WS (c : Nat) (a b : Int32) : Prop := SetC c a ∧ SetC c b ∧ (∀ q, ¬ (bt a q = true ∧ bt b q = true)) ∧ ¬ (a ||| b) = 0
theorem canWeigh_eq {v : TBv} {c : Nat} (hc : c < 13) (hv : v.1 = i3 c) (a b : Int32) : ∃ d : Bool, f_X4_canWeigh v a b = some d ∧ (d = true ↔ WS c a b) := by
  unfold f_X4_canWeigh
  rw [hv]
  by_cases h1 : SetC c (a ||| b)
  · rw [if_pos ((setC_mask hc _).mpr h1)]
    by_cases h2 : (a &&& b) = 0
    · rw [if_pos h2]
      by_cases h3 : (a ||| b) = 0
      · rw [if_pos h3]
        exact ⟨false, rfl, (fun h => nomatch h), fun h => absurd h3 h.2.2.2⟩
      · rw [if_neg h3]
        exact ⟨true, rfl, fun _ => ⟨(SetC.or_iff.mp h1).1, (SetC.or_iff.mp h1).2, (and_zero_iff a b).mp h2, h3⟩, fun _ => rfl⟩
    · rw [if_neg h2]
      exact ⟨false, rfl, (fun h => nomatch h), fun h => absurd ((and_zero_iff a b).mpr h.2.2.1) h2⟩
  · rw [if_neg (fun z => h1 ((setC_mask hc _).mp z))]
    exact ⟨false, rfl, (fun h => nomatch h), fun h => absurd (SetC.or_iff.mpr ⟨h.1, h.2.1⟩) h1⟩
theorem isSet_eq {r : Fn} {c : Nat} (hc : c < 13) (h0 : r 0 = i3 c) (a : Int32) : ∃ d : Bool, f_X8_isSet r a = some d ∧ (d = true ↔ SetC c a) := by
  refine ⟨decide (0 ≤ a ∧ a ≤ i3 (2 ^ c - 1)), ?_, by rw [decide_eq_true_iff, setC_range hc]⟩
  unfold f_X8_isSet
  rw [show r (0 : Int32).toNatClampNeg = i3 c from h0, mask_eq c hc]
  have h := in32 a 0 (i3 (2 ^ c - 1))
  have h' : f_X8_in a.toInt64 (0 : Int64) (i3 (2 ^ c - 1)).toInt64 = _ := h
  rw [h']
  rfl
theorem isWeighing_eq {r : Fn} {c : Nat} (hc : c < 13) (h0 : r 0 = i3 c) (a b : Int32) : ∃ d : Bool, f_X8_isWeighing r a b = some d ∧ (d = true ↔ WS c a b) := by
  obtain ⟨d1, e1, s1⟩ := isSet_eq hc h0 a
  obtain ⟨d2, e2, s2⟩ := isSet_eq hc h0 b
  unfold f_X8_isWeighing
  rw [e1, e2, Option.bind_some]
  cases d1
  · rw [if_pos (by decide)]
    exact ⟨false, rfl, (fun h => nomatch h), fun h => nomatch (s1.mpr h.1)⟩
  · rw [if_neg (by decide), Option.bind_some]
    cases d2
    · rw [if_pos (by decide)]
      exact ⟨false, rfl, (fun h => nomatch h), fun h => nomatch (s2.mpr h.2.1)⟩
    · rw [if_neg (by decide)]
      by_cases h2 : (a &&& b) = 0
      · rw [if_pos h2]
        have hs : SetC c (a ||| b) := SetC.or_iff.mpr ⟨s1.mp rfl, s2.mp rfl⟩
        have h0' : 0 ≤ (a ||| b) := ((setC_range hc _).mpr hs).1
        by_cases h3 : (a ||| b) = 0
        · rw [if_pos (by rw [h3]; decide)]
          exact ⟨false, rfl, (fun h => nomatch h), fun h => absurd h3 h.2.2.2⟩
        · rw [if_neg (fun z => h3 (Int32.toInt.inj (by
            rw [Int32.le_iff_toInt_le] at z h0'
            omega)))]
          exact ⟨true, rfl, fun _ => ⟨s1.mp rfl, s2.mp rfl, (and_zero_iff a b).mp h2, h3⟩, fun _ => rfl⟩
      · rw [if_neg h2]
        exact ⟨false, rfl, (fun h => nomatch h), fun h => absurd ((and_zero_iff a b).mpr h.2.2.1) h2⟩
