/-! ===== foreseeing ===== -/
abbrev tal (P : Nat → Bool) (a b la ra : Int32) : TAv := (i3 (cn P a b la ra 0), i3 (cn P a b la ra 1), i3 (cn P a b la ra 2))
theorem foreW_eq {tb : TBv} {su : Fn} {P : Nat → Bool} (h : SuP su P) (sc : SCv) (w : TAv) {a b : Int32} (la ra : Int32) (ha : Sm a) (hb : Sm b) (hd : ∀ q, ¬ (bt a q = true ∧ bt b q = true)) : f_X4_foreseeWith tb su sc w a b la ra = some (scOf a b la ra, tal P a b la ra) := by
  unfold f_X4_foreseeWith
  rw [set_eq la ra ha hb, Option.bind_some, sort_eq h a b la ra hd w, Option.bind_some]
theorem fore_eq {tb : TBv} {su r : Fn} {c m : Nat} (h : TabR c m tb su r) (sc : SCv) (w : TAv) {a b : Int32} (ha : Sm a) (hb : Sm b) (hd : ∀ q, ¬ (bt a q = true ∧ bt b q = true)) : f_X4_foresee tb su sc w a b = some (scOf a b (r 2) (r 3), tal (PR r c m) a b (r 2) (r 3)) := by
  unfold f_X4_foresee
  rw [foreW_eq h.2.2.2.1 sc w _ _ ha hb hd, Option.bind_some, h.2.1.2.2.1, h.2.1.2.2.2.1]
/-- the greatest of the three -/
def w3 (P : Nat → Bool) (a b la ra : Int32) : Nat := mx (mx (cn P a b la ra 0) (cn P a b la ra 1)) (cn P a b la ra 2)
theorem worstT_eq (P : Nat → Bool) (a b la ra : Int32) : f_X5_worst (tal P a b la ra) = some (i3 (w3 P a b la ra)) := by
  have l0 := cn_le P a b la ra 0
  have l1 := cn_le P a b la ra 1
  have l2 := cn_le P a b la ra 2
  unfold f_X5_worst tal w3
  show some (if i3 (cn P a b la ra 0) < (if i3 (cn P a b la ra 1) < i3 (cn P a b la ra 2) then i3 (cn P a b la ra 2) else i3 (cn P a b la ra 1)) then (if i3 (cn P a b la ra 1) < i3 (cn P a b la ra 2) then i3 (cn P a b la ra 2) else i3 (cn P a b la ra 1)) else i3 (cn P a b la ra 0)) = _
  generalize cn P a b la ra 0 = n0 at l0 ⊢
  generalize cn P a b la ra 1 = n1 at l1 ⊢
  generalize cn P a b la ra 2 = n2 at l2 ⊢
  congr 1
  unfold mx
  by_cases h1 : n1 < n2
  · rw [if_pos ((i3_lt (by omega) (by omega)).mpr h1)]
    by_cases h2 : n0 < n2
    · rw [if_pos ((i3_lt (by omega) (by omega)).mpr h2)]
      congr 1
      by_cases h3 : n0 ≤ n1
      · rw [if_pos h3, if_pos (by omega)]
      · rw [if_neg h3, if_pos (by omega)]
    · rw [if_neg (fun z => h2 ((i3_lt (by omega) (by omega)).mp z))]
      congr 1
      rw [if_neg (show ¬ n0 ≤ n1 by omega)]
      by_cases h3 : n0 ≤ n2
      · rw [if_pos h3]; omega
      · rw [if_neg h3]
  · rw [if_neg (fun z => h1 ((i3_lt (by omega) (by omega)).mp z))]
    by_cases h2 : n0 < n1
    · rw [if_pos ((i3_lt (by omega) (by omega)).mpr h2)]
      congr 1
      rw [if_pos (show n0 ≤ n1 by omega)]
      by_cases h3 : n1 ≤ n2
      · rw [if_pos h3]; omega
      · rw [if_neg h3]
    · rw [if_neg (fun z => h2 ((i3_lt (by omega) (by omega)).mp z))]
      congr 1
      by_cases h3 : n0 ≤ n1
      · rw [if_pos h3]
        by_cases h4 : n1 ≤ n2
        · rw [if_pos h4]; omega
        · rw [if_neg h4]; omega
      · rw [if_neg h3]
        by_cases h4 : n0 ≤ n2
        · rw [if_pos h4]; omega
        · rw [if_neg h4]
theorem w3_le (P : Nat → Bool) (a b la ra : Int32) : w3 P a b la ra ≤ 78 := by
  have l0 := cn_le P a b la ra 0
  have l1 := cn_le P a b la ra 1
  have l2 := cn_le P a b la ra 2
  unfold w3 mx
  split <;> split <;> omega
theorem pairs_eq (P : Nat → Bool) (a b la ra : Int32) : f_X5_unlikePairs (tal P a b la ra) = some (i3 (cn P a b la ra 0 * cn P a b la ra 1 + cn P a b la ra 0 * cn P a b la ra 2 + cn P a b la ra 1 * cn P a b la ra 2)) := by
  unfold f_X5_unlikePairs tal
  rw [i3_mul, i3_mul, i3_mul, i3_add, i3_add]
