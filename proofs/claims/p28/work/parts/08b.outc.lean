/-! ===== outcomes ===== -/
theorem bits_eq (x : Int32) : f_X8_bits x = some (i3 (sm (fun b => (bt x b).toNat) 12)) := by
  unfold f_X8_bits
  have h := itl_for (f := f_X8_bits_B4 x) (fun i => (i3 (sm (fun b => (bt x b).toNat) i), i3 i)) 12 (e := i3 (sm (fun b => (bt x b).toNat) 12)) (by decide) (fun i hi => by
    unfold f_X8_bits_B4
    show (if i3 12 ≤ i3 i then _ else _) = _
    rw [if_neg (by rw [i3_le (by decide) (by omega)]; omega)]
    rw [shr1_val (by omega)]
    show (some (Sum.inl (i3 _ + i3 _, i3 i + i3 1)) : Option ((Int32 × Int32) ⊕ Int32)) = _
    rw [i3_add, i3_add]
    rfl) (by
    unfold f_X8_bits_B4
    show (if i3 12 ≤ i3 12 then _ else _) = _
    rw [if_pos (by rw [i3_le (by decide) (by decide)]; exact Nat.le_refl _)])
  have h' : itl (f_X8_bits_B4 x) FU ((0 : Int32), (0 : Int32)) = _ := h
  rw [h']
  rfl
theorem pc12 {x : Int32} (h : bt x 12 = false) : sm (fun b => (bt x b).toNat) 12 = pc x := by
  show _ = sm (fun b => (bt x b).toNat) 12 + (bt x 12).toNat
  rw [h]
  rfl
/-- how much more than a true coin: light or heavy -/
def mo (v : Nat) : Int32 := if v % 2 = 0 then -1 else 1
def wh (s : Int32) (v : Nat) : Int32 := if bt s (v / 2) = true then mo v else 0
theorem weight_eq {s : Int32} {v : Nat} (hs : bt s 12 = false) (hv : v < 26) : f_X8_weight s (i3 v) = some ((10 : Int32) * i3 (pc s) + wh s v) := by
  have h2 : i3 v / (2 : Int32) = i3 (v / 2) := i3_div (by omega) (by decide : 2 < 2 ^ 31)
  have h3 : i3 v - i3 v / (2 : Int32) * (2 : Int32) = i3 (v % 2) := i3_mod (by omega) (by decide : 2 < 2 ^ 31)
  unfold f_X8_weight f_X8_weight_b23 f_X8_weight_b24 f_X8_weight_b47
  rw [h3, h2, bits_eq, pc12 hs]
  simp only [Option.bind_some]
  show (if i3 12 ≤ i3 (v / 2) then _ else _) = _
  by_cases h12 : 12 ≤ v / 2
  · rw [if_pos (by rw [i3_le (by decide) (by omega)]; exact h12)]
    have e : v / 2 = 12 := by omega
    have e2 : wh s v = 0 := by unfold wh; rw [e, hs]; rfl
    rw [e2]
    rfl
  · rw [if_neg (by rw [i3_le (by decide) (by omega)]; exact h12)]
    by_cases hb : bt s (v / 2) = true
    · rw [if_pos ((shr1_iff (by omega)).mpr hb)]
      have e2 : wh s v = mo v := by unfold wh; rw [hb]; rfl
      rw [e2]
      have e3 : ((2 : Int32) * i3 (v % 2)) - (1 : Int32) = mo v := by
        unfold mo
        rcases Nat.mod_two_eq_zero_or_one v with h | h <;> rw [h] <;> decide
      rw [e3]
      rfl
    · rw [if_neg (fun z => hb ((shr1_iff (by omega)).mp z))]
      have e2 : wh s v = 0 := by unfold wh; rw [if_neg hb]
      rw [e2]
      rfl
def cmp3 (x y : Int32) : Int32 := if x ≤ y then if y ≤ x then 0 else 2 else 1
theorem cmp3_le (x y : Int32) : cmp3 x y = 0 ∨ cmp3 x y = 1 ∨ cmp3 x y = 2 := by
  unfold cmp3
  split
  · split
    · exact Or.inl rfl
    · exact Or.inr (Or.inr rfl)
  · exact Or.inr (Or.inl rfl)
/-- the outcome of a weighing in a case -/
def oc (a b la ra : Int32) (k : Nat) : Int32 := cmp3 (la * (((10 : Int32) * i3 (pc a) + wh a (k / 3)) + b2i (decide (k % 3 = 1)))) (ra * (((10 : Int32) * i3 (pc b) + wh b (k / 3)) + b2i (decide (k % 3 = 2))))
theorem oc_le (a b la ra : Int32) (k : Nat) : oc a b la ra k = 0 ∨ oc a b la ra k = 1 ∨ oc a b la ra k = 2 := cmp3_le _ _
theorem outc_eq {a b la ra : Int32} {k : Nat} (ha : bt a 12 = false) (hb : bt b 12 = false) (hk : k < 78) : f_X8_outcome a b la ra (i3 k) = some (oc a b la ra k) := by
  have h3 : i3 k / (3 : Int32) = i3 (k / 3) := i3_div (by omega) (by decide : 3 < 2 ^ 31)
  have hm : i3 k - i3 k / (3 : Int32) * (3 : Int32) = i3 (k % 3) := i3_mod (by omega) (by decide : 3 < 2 ^ 31)
  unfold f_X8_outcome f_X8_outcome_b22 f_X8_outcome_b48
  rw [hm, h3, weight_eq ha (by omega), weight_eq hb (by omega)]
  simp only [Option.bind_some]
  have e1 : (i3 (k % 3) = (1 : Int32)) ↔ k % 3 = 1 := i3_eq (by omega) (by decide : 1 < 2 ^ 31)
  have e2 : (i3 (k % 3) = (2 : Int32)) ↔ k % 3 = 2 := i3_eq (by omega) (by decide : 2 < 2 ^ 31)
  simp only [e1, e2]
  unfold oc cmp3
  by_cases c1 : k % 3 = 1 <;> by_cases c2 : k % 3 = 2 <;> simp only [c1, c2, if_true, if_false, decide_true, decide_false, apply_ite some, ite_self] <;> first | rfl | omega
/-- what the scale holds -/
abbrev scOf (a b la ra : Int32) : SCv := (a, b, la, ra, (10 : Int32) * i3 (pc a), (10 : Int32) * i3 (pc b))
theorem set_eq {v : SCv} {a b : Int32} (la ra : Int32) (ha : Sm a) (hb : Sm b) : f_X1_set v a b la ra = some (scOf a b la ra) := by
  unfold f_X1_set
  rw [bitCount_eq ha, bitCount_eq hb]
  rfl
theorem scout_eq (a b la ra lm rm : Int32) {p : Nat} (hp : p < 3) : f_X1_outcome (scOf a b la ra) (i3 p) lm rm = some (cmp3 (la * (((10 : Int32) * i3 (pc a) + lm) + b2i (decide (p = 1)))) (ra * (((10 : Int32) * i3 (pc b) + rm) + b2i (decide (p = 2))))) := by
  have e1 : (i3 p = (1 : Int32)) ↔ p = 1 := i3_eq (by omega) (by decide : 1 < 2 ^ 31)
  have e2 : (i3 p = (2 : Int32)) ↔ p = 2 := i3_eq (by omega) (by decide : 2 < 2 ^ 31)
  unfold f_X1_outcome f_X1_outcome_b20 f_X1_outcome_b44
  simp only [e1, e2]
  unfold cmp3
  by_cases c1 : p = 1 <;> by_cases c2 : p = 2 <;> simp only [c1, c2, if_true, if_false, decide_true, decide_false, apply_ite some, ite_self] <;> first | rfl | omega
theorem inCase_eq (a b la ra : Int32) {k : Nat} (hk : k < 78) : f_X1_outcomeInCase (scOf a b la ra) (i3 k) = some (oc a b la ra k) := by
  have h3 : i3 k / (3 : Int32) = i3 (k / 3) := i3_div (by omega) (by decide : 3 < 2 ^ 31)
  have hm : i3 k - i3 k / (3 : Int32) * (3 : Int32) = i3 (k % 3) := i3_mod (by omega) (by decide : 3 < 2 ^ 31)
  have hv : i3 (k / 3) / (2 : Int32) = i3 (k / 3 / 2) := i3_div (by omega) (by decide : 2 < 2 ^ 31)
  have hv2 : i3 (k / 3) - i3 (k / 3) / (2 : Int32) * (2 : Int32) = i3 (k / 3 % 2) := i3_mod (by omega) (by decide : 2 < 2 ^ 31)
  have e0 : (i3 (k / 3 % 2) = 0) ↔ k / 3 % 2 = 0 := i3_eq (by omega) (by decide : 0 < 2 ^ 31)
  unfold f_X1_outcomeInCase f_X1_outcomeInCase_b15 f_X1_outcomeInCase_b42 f_X1_outcomeInCase_b57
  rw [hm, h3, hv2, hv]
  have hb13 : k / 3 / 2 < 13 := by omega
  simp only [e0, and_shl_iff hb13, scout_eq a b la ra _ _ (show k % 3 < 3 by omega), Option.bind_some]
  unfold oc wh mo
  have hsplit : ∀ x : Int32, bt x (k / 3 / 2) = true ∨ bt x (k / 3 / 2) = false := fun x => by cases bt x (k / 3 / 2) <;> simp
  rcases hsplit a with h1 | h1 <;> rcases hsplit b with h2 | h2 <;> by_cases c0 : k / 3 % 2 = 0 <;> simp only [h1, h2, c0, if_true, if_false] <;> rfl
