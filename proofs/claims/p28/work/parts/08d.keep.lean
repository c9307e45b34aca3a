/-! ===== coins, pans; keeping and sorting ===== -/
theorem m3_fff : m3 false false false = 0 := by decide
theorem oth_iff {x : Int32} {c : Nat} (hx : Sm x) (hc : c < 13) : (x &&& (((1 : Int32) <<< (i3 c &&& 31)) ^^^ (-1 : Int32))) = 0 ↔ ex (fun b => bt x b && !decide (b = c)) 13 = false := by
  rw [and_zero_iff, ← Bool.not_eq_true, ex_iff]
  constructor
  · rintro h ⟨b, hb, h2⟩
    refine h b ?_
    rw [bt_not (by omega), bt_shl1 hc]
    simpa using h2
  · intro h j hj
    by_cases h13 : j < 13
    · rw [bt_not (by omega), bt_shl1 hc] at hj
      exact h ⟨j, h13, by simpa using hj⟩
    · rw [hx j (by omega)] at hj
      exact nomatch hj.1
theorem coinMay_eq {su : Fn} {P : Nat → Bool} (h : SuP su P) {c : Nat} (hc : c < 13) : f_X3_coinMayBe su (i3 c) = some (m3 (ex (fun k => P k && (decide (k / 6 = c) && decide (k / 3 % 2 = 0))) 78) (ex (fun k => P k && (decide (k / 6 = c) && !decide (k / 3 % 2 = 0))) 78) (ex (fun k => P k && !decide (k / 6 = c)) 78)) := by
  unfold f_X3_coinMayBe
  have hl := itl_for (f := f_X3_coinMayBe_B4 su (i3 c)) (fun i => (m3 (ex (fun j => bt (su j) c && decide (j % 2 = 0)) i) (ex (fun j => bt (su j) c && !decide (j % 2 = 0)) i) (ex (fun j => ex (fun b => bt (su j) b && !decide (b = c)) 13) i), i3 i)) 6 (e := m3 (ex (fun j => bt (su j) c && decide (j % 2 = 0)) 6) (ex (fun j => bt (su j) c && !decide (j % 2 = 0)) 6) (ex (fun j => ex (fun b => bt (su j) b && !decide (b = c)) 13) 6)) (by decide) (fun i hi => by
    have hm : i3 i - i3 i / (2 : Int32) * (2 : Int32) = i3 (i % 2) := i3_mod (by omega) (by decide : 2 < 2 ^ 31)
    have e0 : (i3 (i % 2) = 0) ↔ i % 2 = 0 := i3_eq (by omega) (by decide : 0 < 2 ^ 31)
    unfold f_X3_coinMayBe_B4 f_X3_coinMayBe_B4_b38 f_X3_coinMayBe_B4_b40 f_X3_coinMayBe_B4_b59
    show (if i3 6 ≤ i3 i then _ else _) = _
    rw [if_neg (by rw [i3_le (by decide) (by omega)]; omega)]
    have g1 := i3_nn (a := i) (by omega)
    have g2 : ¬ 6 ≤ i := by omega
    simp only [hm, i3_nat (show i < 2 ^ 31 by omega), g1, g2, or_self, if_false, e0, and_shl_iff hc, oth_iff (h i hi).1 hc]
    rw [show i3 i + (1 : Int32) = i3 (i + 1) from i3_add i 1]
    show _ = some (Sum.inl (m3 (_ || (bt (su i) c && decide (i % 2 = 0))) (_ || (bt (su i) c && !decide (i % 2 = 0))) (_ || ex (fun b => bt (su i) b && !decide (b = c)) 13), i3 (i + 1)))
    have hs : ∀ b : Bool, b = true ∨ b = false := fun b => by cases b <;> simp
    rcases hs (bt (su i) c) with h1 | h1 <;> rcases hs (ex (fun b => bt (su i) b && !decide (b = c)) 13) with h2 | h2 <;> by_cases h3 : i % 2 = 0 <;> simp only [h1, h2, h3, if_true, if_false, m3_1, m3_2, m3_4, Bool.true_and, Bool.false_and, Bool.and_true, Bool.and_false, decide_true, decide_false, Bool.not_true, Bool.not_false, Bool.or_true, Bool.or_false, reduceCtorEq]) (by
    unfold f_X3_coinMayBe_B4
    show (if i3 6 ≤ i3 6 then _ else _) = _
    rw [if_pos (by rw [i3_le (by decide) (by decide)]; exact Nat.le_refl _)])
  change itl _ FU (m3 false false false, i3 0) = _ at hl
  rw [m3_fff] at hl
  have hl' : itl (f_X3_coinMayBe_B4 su (i3 c)) FU ((0 : Int32), (0 : Int32)) = _ := hl
  rw [hl']
  show some (m3 _ _ _) = _
  congr 2
  · refine ex_eq (fun j hj hp => ⟨kOf j c, by unfold kOf; omega, ?_⟩) (fun k hk hp => ⟨2 * (k % 3) + k / 3 % 2, by omega, ?_⟩)
    · rw [(h j hj).2 c hc] at hp
      have h2 : j % 2 = 0 := by simpa using (Bool.and_eq_true_iff.mp hp).2
      have e1 : kOf j c / 6 = c := by unfold kOf; omega
      have e2 : kOf j c / 3 % 2 = 0 := by unfold kOf; omega
      simp only [e1, e2, (Bool.and_eq_true_iff.mp hp).1, decide_true, Bool.and_true]
    · have h6 : k / 6 = c ∧ k / 3 % 2 = 0 := by simpa using (Bool.and_eq_true_iff.mp hp).2
      have h7 : k / 3 / 2 = c := by omega
      rw [(h _ (by omega)).2 c hc, ← h7, kOf_at, (Bool.and_eq_true_iff.mp hp).1]
      simp only [Bool.true_and, decide_eq_true_eq]
      omega
  · refine ex_eq (fun j hj hp => ⟨kOf j c, by unfold kOf; omega, ?_⟩) (fun k hk hp => ⟨2 * (k % 3) + k / 3 % 2, by omega, ?_⟩)
    · rw [(h j hj).2 c hc] at hp
      have h2 : ¬ j % 2 = 0 := by simpa using (Bool.and_eq_true_iff.mp hp).2
      have e1 : kOf j c / 6 = c := by unfold kOf; omega
      have e2 : ¬ kOf j c / 3 % 2 = 0 := by unfold kOf; omega
      simp only [e1, e2, (Bool.and_eq_true_iff.mp hp).1, decide_true, decide_false, Bool.not_false, Bool.and_true]
    · have h6 : k / 6 = c ∧ ¬ k / 3 % 2 = 0 := by simpa using (Bool.and_eq_true_iff.mp hp).2
      have h7 : k / 3 / 2 = c := by omega
      rw [(h _ (by omega)).2 c hc, ← h7, kOf_at, (Bool.and_eq_true_iff.mp hp).1]
      simp only [Bool.true_and, Bool.not_eq_true', decide_eq_false_iff_not]
      omega
  · refine ex_eq (fun j hj hp => ?_) (fun k hk hp => ⟨2 * (k % 3) + k / 3 % 2, by omega, ?_⟩)
    · obtain ⟨b, hb, h2⟩ := ex_iff.mp hp
      have h3 : bt (su j) b = true ∧ ¬ b = c := by simpa using h2
      refine ⟨kOf j b, by unfold kOf; omega, ?_⟩
      rw [← (h j hj).2 b hb, h3.1]
      have e1 : ¬ kOf j b / 6 = c := by unfold kOf; omega
      simp only [e1, decide_false, Bool.not_false, Bool.and_true]
    · have h6 : ¬ k / 6 = c := by simpa using (Bool.and_eq_true_iff.mp hp).2
      rw [ex_iff]
      refine ⟨k / 3 / 2, by omega, ?_⟩
      rw [(h _ (by omega)).2 _ (by omega), kOf_at, (Bool.and_eq_true_iff.mp hp).1]
      simp only [Bool.true_and, Bool.not_eq_true', decide_eq_false_iff_not]
      omega
theorem zero_iff {x : Int32} (hx : Sm x) : x = 0 ↔ ex (fun b => bt x b) 13 = false := by
  rw [← Bool.not_eq_true, ex_iff]
  constructor
  · rintro rfl ⟨b, _, h2⟩
    rw [bt_zero] at h2
    exact nomatch h2
  · intro h
    refine bt_ext (fun j _ => ?_)
    rw [bt_zero]
    by_cases h13 : j < 13
    · cases hb : bt x j
      · rfl
      · exact absurd ⟨j, h13, hb⟩ h
    · exact hx j (by omega)
theorem pans_eq {su : Fn} {P : Nat → Bool} (h : SuP su P) : f_X3_pansMayBe su = some (m3 (ex (fun k => P k && decide (k % 3 = 0)) 78) (ex (fun k => P k && decide (k % 3 = 1)) 78) (ex (fun k => P k && decide (k % 3 = 2)) 78)) := by
  unfold f_X3_pansMayBe
  have hl := itl_for (f := f_X3_pansMayBe_B4 su) (fun i => (m3 (ex (fun j => ex (fun b => bt (su j) b) 13 && decide (j / 2 = 0)) i) (ex (fun j => ex (fun b => bt (su j) b) 13 && decide (j / 2 = 1)) i) (ex (fun j => ex (fun b => bt (su j) b) 13 && decide (j / 2 = 2)) i), i3 i)) 6 (e := m3 (ex (fun j => ex (fun b => bt (su j) b) 13 && decide (j / 2 = 0)) 6) (ex (fun j => ex (fun b => bt (su j) b) 13 && decide (j / 2 = 1)) 6) (ex (fun j => ex (fun b => bt (su j) b) 13 && decide (j / 2 = 2)) 6)) (by decide) (fun i hi => by
    have hd : i3 i / (2 : Int32) = i3 (i / 2) := i3_div (by omega) (by decide : 2 < 2 ^ 31)
    unfold f_X3_pansMayBe_B4 f_X3_pansMayBe_B4_b30
    show (if i3 6 ≤ i3 i then _ else _) = _
    rw [if_neg (by rw [i3_le (by decide) (by omega)]; omega)]
    have g1 := i3_nn (a := i) (by omega)
    have g2 : ¬ 6 ≤ i := by omega
    simp only [hd, i3_nat (show i < 2 ^ 31 by omega), g1, g2, or_self, if_false, zero_iff (h i hi).1]
    rw [show i3 i + (1 : Int32) = i3 (i + 1) from i3_add i 1]
    show _ = some (Sum.inl (m3 (_ || (ex (fun b => bt (su i) b) 13 && decide (i / 2 = 0))) (_ || (ex (fun b => bt (su i) b) 13 && decide (i / 2 = 1))) (_ || (ex (fun b => bt (su i) b) 13 && decide (i / 2 = 2))), i3 (i + 1)))
    have hs : ∀ b : Bool, b = true ∨ b = false := fun b => by cases b <;> simp
    have h012 : i / 2 = 0 ∨ i / 2 = 1 ∨ i / 2 = 2 := by omega
    have s0 : (1 : Int32) <<< (i3 0 &&& 31) = 1 := by decide
    have s1 : (1 : Int32) <<< (i3 1 &&& 31) = 2 := by decide
    have s2 : (1 : Int32) <<< (i3 2 &&& 31) = 4 := by decide
    rcases hs (ex (fun b => bt (su i) b) 13) with h2 | h2 <;> rcases h012 with h3 | h3 | h3 <;> simp [h2, h3, s0, s1, s2, m3_1, m3_2, m3_4]) (by
    unfold f_X3_pansMayBe_B4
    show (if i3 6 ≤ i3 6 then _ else _) = _
    rw [if_pos (by rw [i3_le (by decide) (by decide)]; exact Nat.le_refl _)])
  change itl _ FU (m3 false false false, i3 0) = _ at hl
  rw [m3_fff] at hl
  have hl' : itl (f_X3_pansMayBe_B4 su) FU ((0 : Int32), (0 : Int32)) = _ := hl
  rw [hl']
  show some (m3 _ _ _) = _
  have key : ∀ q, q < 3 → ex (fun j => ex (fun b => bt (su j) b) 13 && decide (j / 2 = q)) 6 = ex (fun k => P k && decide (k % 3 = q)) 78 := by
    intro q hq
    refine ex_eq (fun j hj hp => ?_) (fun k hk hp => ⟨2 * (k % 3) + k / 3 % 2, by omega, ?_⟩)
    · obtain ⟨b, hb, h2⟩ := ex_iff.mp (Bool.and_eq_true_iff.mp hp).1
      have h3 : j / 2 = q := by simpa using (Bool.and_eq_true_iff.mp hp).2
      refine ⟨kOf j b, by unfold kOf; omega, ?_⟩
      rw [← (h j hj).2 b hb, h2]
      have e1 : kOf j b % 3 = q := by unfold kOf; omega
      simp only [e1, decide_true, Bool.and_true]
    · have h3 : k % 3 = q := by simpa using (Bool.and_eq_true_iff.mp hp).2
      rw [Bool.and_eq_true_iff]
      refine ⟨ex_iff.mpr ⟨k / 3 / 2, by omega, ?_⟩, ?_⟩
      · rw [(h _ (by omega)).2 _ (by omega), kOf_at, (Bool.and_eq_true_iff.mp hp).1]
      · rw [decide_eq_true_eq]; omega
  rw [key 0 (by decide), key 1 (by decide), key 2 (by decide)]
