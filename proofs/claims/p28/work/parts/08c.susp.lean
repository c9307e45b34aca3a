/-! ===== the suspects: sets of bits, and the cases that they stand for ===== -/
def kOf (j b : Nat) : Nat := 3 * (2 * b + j % 2) + j / 2
theorem kOf_at (k : Nat) : kOf (2 * (k % 3) + k / 3 % 2) (k / 3 / 2) = k := by unfold kOf; omega
def SuP (su : Fn) (P : Nat → Bool) : Prop := ∀ j, j < 6 → Sm (su j) ∧ ∀ b, b < 13 → bt (su j) b = P (kOf j b)
theorem has_eq {su : Fn} {P : Nat → Bool} {k : Nat} (h : SuP su P) (hk : k < 78) : f_X3_has su (i3 k) = some (P k) := by
  have h3 : i3 k / (3 : Int32) = i3 (k / 3) := i3_div (by omega) (by decide : 3 < 2 ^ 31)
  have hm : i3 k - i3 k / (3 : Int32) * (3 : Int32) = i3 (k % 3) := i3_mod (by omega) (by decide : 3 < 2 ^ 31)
  have hv : i3 (k / 3) / (2 : Int32) = i3 (k / 3 / 2) := i3_div (by omega) (by decide : 2 < 2 ^ 31)
  have hv2 : i3 (k / 3) - i3 (k / 3) / (2 : Int32) * (2 : Int32) = i3 (k / 3 % 2) := i3_mod (by omega) (by decide : 2 < 2 ^ 31)
  have hj : (2 : Int32) * i3 (k % 3) + i3 (k / 3 % 2) = i3 (2 * (k % 3) + k / 3 % 2) := by
    rw [show (2 : Int32) = i3 2 from rfl, i3_mul, i3_add]
  have hj6 : 2 * (k % 3) + k / 3 % 2 < 6 := by omega
  unfold f_X3_has f_X3_has_b14
  rw [hm, h3, hv2, hv, hj]
  rw [if_neg (i3_nn (by omega))]
  show (if i3 6 ≤ i3 (2 * (k % 3) + k / 3 % 2) then _ else _) = _
  rw [if_neg (by rw [i3_le (by decide) (by omega)]; omega), if_neg (i3_in hj6 (by decide)), i3_nat (by omega)]
  have hb := (h _ hj6).2 (k / 3 / 2) (by omega)
  rw [kOf_at] at hb
  cases hp : P k
  · rw [if_neg]
    intro z
    rw [shr1_iff (by omega), hb, hp] at z
    exact nomatch z
  · rw [if_pos]
    rw [shr1_iff (by omega), hb, hp]
set_option maxRecDepth 20000 in
theorem sm_reg (Q : Nat → Nat) : sm (fun j => sm (fun b => Q (kOf j b)) 13) 6 = sm Q 78 := by
  simp only [sm, kOf]
  simp only [Nat.zero_add, Nat.add_zero, Nat.reduceMul, Nat.reduceAdd, Nat.reduceMod, Nat.reduceDiv]
  omega
theorem count_eq {su : Fn} {P : Nat → Bool} (h : SuP su P) : f_X3_count su = some (i3 (sm (fun k => (P k).toNat) 78)) := by
  unfold f_X3_count
  have hl := itl_for (f := f_X3_count_B4 su) (fun i => (i3 (sm (fun j => pc (su j)) i), i3 i)) 6 (e := i3 (sm (fun j => pc (su j)) 6)) (by decide) (fun i hi => by
    unfold f_X3_count_B4
    show (if i3 6 ≤ i3 i then _ else _) = _
    rw [if_neg (by rw [i3_le (by decide) (by omega)]; omega)]
    show (if i3 i < 0 ∨ 6 ≤ (i3 i).toNatClampNeg then _ else (f_J6_bitCount_0f7a4 (su (i3 i).toNatClampNeg)).bind _) = _
    rw [if_neg (i3_in hi (by decide)), i3_nat (by omega), bitCount_eq (h i hi).1]
    show (some (Sum.inl (i3 _ + i3 _, i3 i + i3 1)) : Option ((Int32 × Int32) ⊕ Int32)) = _
    rw [i3_add, i3_add]
    rfl) (by
    unfold f_X3_count_B4
    show (if i3 6 ≤ i3 6 then _ else _) = _
    rw [if_pos (by rw [i3_le (by decide) (by decide)]; exact Nat.le_refl _)])
  have hl' : itl (f_X3_count_B4 su) FU ((0 : Int32), (0 : Int32)) = _ := hl
  rw [hl']
  show some (i3 _) = _
  rw [← sm_reg]
  congr 2
  exact sm_cong (fun j hj => sm_cong (fun b hb => by rw [(h j hj).2 b hb]))
theorem upd_if (F v : Fn) (i : Nat) : upd (fun j => if j < i then F j else v j) i (F i) = fun j => if j < i + 1 then F j else v j := by
  funext j
  unfold upd
  by_cases h : j = i
  · subst h
    rw [if_pos rfl, if_pos (by omega)]
  · rw [if_neg h]
    by_cases h2 : j < i
    · show (if j < i then F j else v j) = _
      rw [if_pos h2, if_pos (by omega)]
    · show (if j < i then F j else v j) = _
      rw [if_neg h2, if_neg (by omega)]
theorem if0 (F v : Fn) : (fun j => if j < 0 then F j else v j) = v := by
  funext j
  rw [if_neg (Nat.not_lt_zero j)]
/-- all that may be suspected -/
def allS (c j : Nat) : Int32 := if j % 2 = 0 then (((1 : Int32) <<< (i3 c &&& 31)) - (1 : Int32)) ||| ((1 : Int32) <<< (i3 c &&& 31)) else ((1 : Int32) <<< (i3 c &&& 31)) - (1 : Int32)
theorem allS_bt : ∀ c, c < 13 → ∀ j, j < 6 → ∀ b, b < 32 → bt (allS c j) b = (decide (b < 13) && decide (kOf j b < 3 * (2 * c + 1))) := by decide +kernel
theorem suspectAll_eq (v : Fn) {c : Nat} (hc : c < 13) : ∃ su, f_X3_suspectAll v (i3 c) = some su ∧ SuP su (fun k => decide (k < 3 * (2 * c + 1))) := by
  refine ⟨fun j => if j < 6 then allS c j else v j, ?_, fun j hj => ?_⟩
  · unfold f_X3_suspectAll
    have hl := itl_for (f := f_X3_suspectAll_B8 (i3 c) (((1 : Int32) <<< (i3 c &&& 31)) - (1 : Int32))) (fun i => (i3 i, fun j => if j < i then allS c j else v j)) 6 (e := fun j => if j < 6 then allS c j else v j) (by decide) (fun i hi => by
      have hm : i3 i - i3 i / (2 : Int32) * (2 : Int32) = i3 (i % 2) := i3_mod (by omega) (by decide : 2 < 2 ^ 31)
      have e0 : (i3 (i % 2) = 0) ↔ i % 2 = 0 := i3_eq (by omega) (by decide : 0 < 2 ^ 31)
      unfold f_X3_suspectAll_B8 f_X3_suspectAll_B8_b37
      show (if i3 6 ≤ i3 i then _ else _) = _
      rw [if_neg (by rw [i3_le (by decide) (by omega)]; omega)]
      show (if i3 i - i3 i / (2 : Int32) * (2 : Int32) = 0 then (if i3 i < 0 ∨ 6 ≤ (i3 i).toNatClampNeg then none else some (Sum.inl (i3 i + i3 1, upd _ (i3 i).toNatClampNeg _))) else (if i3 i < 0 ∨ 6 ≤ (i3 i).toNatClampNeg then none else some (Sum.inl (i3 i + i3 1, upd _ (i3 i).toNatClampNeg _))) : Option ((Int32 × Fn) ⊕ Fn)) = _
      rw [hm, if_neg (i3_in hi (by decide)), if_neg (i3_in hi (by decide)), i3_nat (by omega), i3_add, ← upd_if]
      simp only [e0]
      unfold allS
      by_cases h : i % 2 = 0
      · rw [if_pos h, if_pos h]
      · rw [if_neg h, if_neg h]) (by
      unfold f_X3_suspectAll_B8
      show (if i3 6 ≤ i3 6 then _ else _) = _
      rw [if_pos (by rw [i3_le (by decide) (by decide)]; exact Nat.le_refl _)])
    rw [if0] at hl
    have hl' : itl (f_X3_suspectAll_B8 (i3 c) (((1 : Int32) <<< (i3 c &&& 31)) - (1 : Int32))) FU ((0 : Int32), v) = _ := hl
    rw [hl']
    rfl
  · show Sm (if j < 6 then allS c j else v j) ∧ ∀ b, b < 13 → bt (if j < 6 then allS c j else v j) b = _
    rw [if_pos hj]
    refine ⟨fun b hb => ?_, fun b hb => ?_⟩
    · by_cases h : b < 32
      · rw [allS_bt c hc j hj b h, decide_eq_false (by omega)]; rfl
      · exact bt_ge (by omega)
    · rw [allS_bt c hc j hj b (by omega), decide_eq_true hb]; rfl
theorem copyS_eq (v w : Fn) : f_X3_copyFrom v w = some (fun j => if j < 6 then w j else v j) := by
  unfold f_X3_copyFrom
  have hl := itl_for (f := f_X3_copyFrom_B2 w) (fun i => (i3 i, fun j => if j < i then w j else v j)) 6 (e := fun j => if j < 6 then w j else v j) (by decide) (fun i hi => by
    unfold f_X3_copyFrom_B2
    show (if i3 6 ≤ i3 i then _ else if i3 6 ≤ i3 i then _ else if i3 i < 0 ∨ 6 ≤ (i3 i).toNatClampNeg then none else if i3 i < 0 ∨ 6 ≤ (i3 i).toNatClampNeg then none else some (Sum.inl (i3 i + i3 1, upd _ (i3 i).toNatClampNeg (w (i3 i).toNatClampNeg))) : Option ((Int32 × Fn) ⊕ Fn)) = _
    rw [if_neg (by rw [i3_le (by decide) (by omega)]; omega), if_neg (by rw [i3_le (by decide) (by omega)]; omega), if_neg (i3_in hi (by decide)), if_neg (i3_in hi (by decide)), i3_nat (by omega), i3_add, upd_if]) (by
    unfold f_X3_copyFrom_B2
    show (if i3 6 ≤ i3 6 then _ else _) = _
    rw [if_pos (by rw [i3_le (by decide) (by decide)]; exact Nat.le_refl _)])
  rw [if0] at hl
  have hl' : itl (f_X3_copyFrom_B2 w) FU ((0 : Int32), v) = _ := hl
  rw [hl']
  rfl
theorem SuP.copy {su v : Fn} {P : Nat → Bool} (h : SuP su P) : SuP (fun j => if j < 6 then su j else v j) P := by
  intro j hj
  show Sm (if j < 6 then su j else v j) ∧ ∀ b, b < 13 → bt (if j < 6 then su j else v j) b = _
  rw [if_pos hj]
  exact h j hj
/-! what is there -/
def ex (p : Nat → Bool) : Nat → Bool
  | 0 => false
  | n + 1 => ex p n || p n
theorem ex_iff {p : Nat → Bool} : ∀ {n : Nat}, ex p n = true ↔ ∃ i, i < n ∧ p i = true := by
  intro n
  induction n with
  | zero => exact ⟨(fun h => nomatch h), fun ⟨i, hi, _⟩ => absurd hi (Nat.not_lt_zero i)⟩
  | succ n ih =>
    show (ex p n || p n) = true ↔ _
    rw [Bool.or_eq_true, ih]
    constructor
    · rintro (⟨i, hi, h⟩ | h)
      · exact ⟨i, by omega, h⟩
      · exact ⟨n, by omega, h⟩
    · rintro ⟨i, hi, h⟩
      by_cases hin : i = n
      · subst hin; exact Or.inr h
      · exact Or.inl ⟨i, by omega, h⟩
theorem ex_eq {p q : Nat → Bool} {m n : Nat} (h1 : ∀ i, i < m → p i = true → ∃ j, j < n ∧ q j = true) (h2 : ∀ j, j < n → q j = true → ∃ i, i < m ∧ p i = true) : ex p m = ex q n := by
  rw [Bool.eq_iff_iff, ex_iff, ex_iff]
  exact ⟨fun ⟨i, hi, h⟩ => h1 i hi h, fun ⟨j, hj, h⟩ => h2 j hj h⟩
def m3 (x y z : Bool) : Int32 := ((if x then (1 : Int32) else 0) ||| (if y then (2 : Int32) else 0)) ||| (if z then (4 : Int32) else 0)
theorem m3_1 (x y z : Bool) : m3 x y z ||| (1 : Int32) = m3 true y z := by cases x <;> cases y <;> cases z <;> decide
theorem m3_2 (x y z : Bool) : m3 x y z ||| (2 : Int32) = m3 x true z := by cases x <;> cases y <;> cases z <;> decide
theorem m3_4 (x y z : Bool) : m3 x y z ||| (4 : Int32) = m3 x y true := by cases x <;> cases y <;> cases z <;> decide
theorem m3_0 (x y z : Bool) : m3 x y z ||| (0 : Int32) = m3 x y z := by cases x <;> cases y <;> cases z <;> decide
