/-! ===== the reference: coins, pans, needs ===== -/
theorem PR_fit {r : Fn} {c m k : Nat} (hk : k < nC c) : PR r c m k = fitB r m k := by unfold PR; rw [decide_eq_true hk]; rfl
theorem PR_out {r : Fn} {c m k : Nat} (hk : ¬ k < nC c) : PR r c m k = false := by unfold PR; rw [decide_eq_false hk]; rfl
theorem ex_cut {p : Nat → Bool} {n N : Nat} (hn : n ≤ N) (h : ∀ k, n ≤ k → p k = false) : ex p n = ex p N :=
  ex_eq (fun i hi hp => ⟨i, by omega, hp⟩) (fun j _ hp => ⟨j, Nat.lt_of_not_le (fun z => by rw [h j z] at hp; exact nomatch hp), hp⟩)
abbrev c1 (P : Nat → Bool) (c : Nat) (k : Nat) : Bool := P k && (decide (k / 6 = c) && decide (k / 3 % 2 = 0))
abbrev c2 (P : Nat → Bool) (c : Nat) (k : Nat) : Bool := P k && (decide (k / 6 = c) && !decide (k / 3 % 2 = 0))
abbrev c4 (P : Nat → Bool) (c : Nat) (k : Nat) : Bool := P k && !decide (k / 6 = c)
theorem coinOf_step {r : Fn} {m c k d : Nat} (hr : RowS r m) (hm : m ≤ 20) (h0 : r 0 = i3 c) (h4 : r 4 = i3 m) (hc : c < 13) (hk : k < nC c) (hd : d < 13) : f_X8_coinOf_B4 r (i3 d) (m3 (ex (c1 (fitB r m) d) k) (ex (c2 (fitB r m) d) k) (ex (c4 (fitB r m) d) k), i3 k) = some (.inl (m3 (ex (c1 (fitB r m) d) (k + 1)) (ex (c2 (fitB r m) d) (k + 1)) (ex (c4 (fitB r m) d) (k + 1)), i3 (k + 1))) := by
  have h75 := nC_lt hc
  have g4 : i3 k + (1 : Int32) = i3 (k + 1) := i3_add k 1
  have h6 : i3 k / (6 : Int32) = i3 (k / 6) := i3_div (by omega) (by decide : 6 < 2 ^ 31)
  have h3 : i3 k / (3 : Int32) = i3 (k / 3) := i3_div (by omega) (by decide : 3 < 2 ^ 31)
  have hv2 : i3 (k / 3) - i3 (k / 3) / (2 : Int32) * (2 : Int32) = i3 (k / 3 % 2) := i3_mod (by omega) (by decide : 2 < 2 ^ 31)
  have e0 : (i3 (k / 3 % 2) = 0) ↔ k / 3 % 2 = 0 := i3_eq (by omega) (by decide : 0 < 2 ^ 31)
  have e6 : (i3 (k / 6) = i3 d) ↔ k / 6 = d := i3_eq (by omega) (by omega)
  unfold f_X8_coinOf_B4 f_X8_coinOf_B4_b51 f_X8_coinOf_B4_b53
  rw [show r (0 : Int32).toNatClampNeg = i3 c from h0, show r (4 : Int32).toNatClampNeg = i3 m from h4, allOf_eq, Option.bind_some, if_neg (by show ¬ i3 (nC c) ≤ i3 k; rw [i3_le (by omega) (by omega)]; omega), fits_eq hr hm (by omega), Option.bind_some]
  show (if b2i (fitB r m k) = 0 then some (Sum.inl (_, i3 k + (1 : Int32))) else if i3 k / (6 : Int32) = i3 d then if i3 k / (3 : Int32) - i3 k / (3 : Int32) / (2 : Int32) * (2 : Int32) = 0 then some (Sum.inl (_ ||| (1 : Int32), i3 k + (1 : Int32))) else some (Sum.inl (_ ||| (2 : Int32), i3 k + (1 : Int32))) else some (Sum.inl (_ ||| (4 : Int32), i3 k + (1 : Int32))) : Option ((Int32 × Int32) ⊕ Int32)) = some (Sum.inl (m3 (ex (c1 (fitB r m) d) k || c1 (fitB r m) d k) (ex (c2 (fitB r m) d) k || c2 (fitB r m) d k) (ex (c4 (fitB r m) d) k || c4 (fitB r m) d k), i3 (k + 1)))
  rw [g4, h6, h3, hv2]
  unfold c1 c2 c4
  by_cases hp : fitB r m k = true
  · rw [if_neg (by rw [hp]; decide)]
    by_cases a1 : k / 6 = d
    · rw [if_pos (e6.mpr a1)]
      by_cases a2 : k / 3 % 2 = 0
      · rw [if_pos (e0.mpr a2), m3_1]
        simp only [hp, a1, a2, decide_true, Bool.true_and, Bool.not_true, Bool.or_true, Bool.or_false]
      · rw [if_neg (fun z => a2 (e0.mp z)), m3_2]
        simp only [hp, a1, a2, decide_true, decide_false, Bool.true_and, Bool.not_true, Bool.not_false, Bool.or_true, Bool.or_false]
    · rw [if_neg (fun z => a1 (e6.mp z)), m3_4]
      simp only [hp, a1, decide_false, Bool.true_and, Bool.false_and, Bool.not_false, Bool.or_true, Bool.or_false]
  · have hp' : fitB r m k = false := by simpa using hp
    rw [if_pos ((b2i0 _).mpr hp')]
    simp only [hp', Bool.false_and, Bool.or_false]
theorem coinOf_eq {r : Fn} {m c d : Nat} (hr : RowS r m) (hm : m ≤ 20) (h0 : r 0 = i3 c) (h4 : r 4 = i3 m) (hc : c < 13) (hd : d < 13) : f_X8_coinOf r (i3 d) = some (m3 (ex (c1 (PR r c m) d) 78) (ex (c2 (PR r c m) d) 78) (ex (c4 (PR r c m) d) 78)) := by
  have h75 := nC_lt hc
  unfold f_X8_coinOf
  have hl := itl_for (f := f_X8_coinOf_B4 r (i3 d)) (fun k => (m3 (ex (c1 (fitB r m) d) k) (ex (c2 (fitB r m) d) k) (ex (c4 (fitB r m) d) k), i3 k)) (nC c) (e := m3 (ex (c1 (fitB r m) d) (nC c)) (ex (c2 (fitB r m) d) (nC c)) (ex (c4 (fitB r m) d) (nC c))) (by unfold FU; omega) (fun k hk => coinOf_step hr hm h0 h4 hc hk hd) (by
    unfold f_X8_coinOf_B4
    rw [show r (0 : Int32).toNatClampNeg = i3 c from h0, allOf_eq, Option.bind_some, if_pos (by show i3 (nC c) ≤ i3 (nC c); rw [i3_le (by omega) (by omega)]; exact Nat.le_refl _)])
  change itl _ FU (m3 false false false, i3 0) = _ at hl
  rw [m3_fff] at hl
  have hl' : itl (f_X8_coinOf_B4 r (i3 d)) FU ((0 : Int32), (0 : Int32)) = _ := hl
  rw [hl', Option.bind_some]
  have key : ∀ (g : Nat → Bool → Bool), (∀ k, g k false = false) → ex (fun k => g k (fitB r m k)) (nC c) = ex (fun k => g k (PR r c m k)) 78 := by
    intro g hg
    rw [← ex_cut (p := fun k => g k (PR r c m k)) (n := nC c) (by omega) (fun k hk => by rw [PR_out (by omega), hg])]
    exact ex_eq (fun i hi hp => ⟨i, hi, by rw [PR_fit hi]; exact hp⟩) (fun i hi hp => ⟨i, hi, by rw [PR_fit hi] at hp; exact hp⟩)
  rw [key (fun k b => b && (decide (k / 6 = d) && decide (k / 3 % 2 = 0))) (fun _ => rfl), key (fun k b => b && (decide (k / 6 = d) && !decide (k / 3 % 2 = 0))) (fun _ => rfl), key (fun k b => b && !decide (k / 6 = d)) (fun _ => rfl)]
abbrev pq (P : Nat → Bool) (q k : Nat) : Bool := P k && decide (k % 3 = q)
theorem pansOf_step {r : Fn} {m c k : Nat} (hr : RowS r m) (hm : m ≤ 20) (h0 : r 0 = i3 c) (h4 : r 4 = i3 m) (hc : c < 13) (hk : k < nC c) : f_X8_pansOf_B4 r (m3 (ex (pq (fitB r m) 0) k) (ex (pq (fitB r m) 1) k) (ex (pq (fitB r m) 2) k), i3 k) = some (.inl (m3 (ex (pq (fitB r m) 0) (k + 1)) (ex (pq (fitB r m) 1) (k + 1)) (ex (pq (fitB r m) 2) (k + 1)), i3 (k + 1))) := by
  have h75 := nC_lt hc
  have g4 : i3 k + (1 : Int32) = i3 (k + 1) := i3_add k 1
  have h3 : i3 k - i3 k / (3 : Int32) * (3 : Int32) = i3 (k % 3) := i3_mod (by omega) (by decide : 3 < 2 ^ 31)
  unfold f_X8_pansOf_B4 f_X8_pansOf_B4_b35
  rw [show r (0 : Int32).toNatClampNeg = i3 c from h0, show r (4 : Int32).toNatClampNeg = i3 m from h4, allOf_eq, Option.bind_some, if_neg (by show ¬ i3 (nC c) ≤ i3 k; rw [i3_le (by omega) (by omega)]; omega), fits_eq hr hm (by omega), Option.bind_some]
  show (if b2i (fitB r m k) = 0 then some (Sum.inl (_ ||| (0 : Int32), i3 k + (1 : Int32))) else some (Sum.inl (_ ||| (1 : Int32) <<< ((i3 k - i3 k / (3 : Int32) * (3 : Int32)) &&& 31), i3 k + (1 : Int32))) : Option ((Int32 × Int32) ⊕ Int32)) = some (Sum.inl (m3 (ex (pq (fitB r m) 0) k || pq (fitB r m) 0 k) (ex (pq (fitB r m) 1) k || pq (fitB r m) 1 k) (ex (pq (fitB r m) 2) k || pq (fitB r m) 2 k), i3 (k + 1)))
  rw [g4, h3]
  unfold pq
  by_cases hp : fitB r m k = true
  · rw [if_neg (by rw [hp]; decide)]
    have h012 : k % 3 = 0 ∨ k % 3 = 1 ∨ k % 3 = 2 := by omega
    have s0 : (1 : Int32) <<< (i3 0 &&& 31) = 1 := by decide
    have s1 : (1 : Int32) <<< (i3 1 &&& 31) = 2 := by decide
    have s2 : (1 : Int32) <<< (i3 2 &&& 31) = 4 := by decide
    rcases h012 with h | h | h <;> rw [h]
    · rw [s0, m3_1]; simp [hp]
    · rw [s1, m3_2]; simp [hp]
    · rw [s2, m3_4]; simp [hp]
  · have hp' : fitB r m k = false := by simpa using hp
    rw [if_pos ((b2i0 _).mpr hp'), m3_0]
    simp only [hp', Bool.false_and, Bool.or_false]
theorem pansOf_eq {r : Fn} {m c : Nat} (hr : RowS r m) (hm : m ≤ 20) (h0 : r 0 = i3 c) (h4 : r 4 = i3 m) (hc : c < 13) : f_X8_pansOf r = some (m3 (ex (pq (PR r c m) 0) 78) (ex (pq (PR r c m) 1) 78) (ex (pq (PR r c m) 2) 78)) := by
  have h75 := nC_lt hc
  unfold f_X8_pansOf
  have hl := itl_for (f := f_X8_pansOf_B4 r) (fun k => (m3 (ex (pq (fitB r m) 0) k) (ex (pq (fitB r m) 1) k) (ex (pq (fitB r m) 2) k), i3 k)) (nC c) (e := m3 (ex (pq (fitB r m) 0) (nC c)) (ex (pq (fitB r m) 1) (nC c)) (ex (pq (fitB r m) 2) (nC c))) (by unfold FU; omega) (fun k hk => pansOf_step hr hm h0 h4 hc hk) (by
    unfold f_X8_pansOf_B4
    rw [show r (0 : Int32).toNatClampNeg = i3 c from h0, allOf_eq, Option.bind_some, if_pos (by show i3 (nC c) ≤ i3 (nC c); rw [i3_le (by omega) (by omega)]; exact Nat.le_refl _)])
  change itl _ FU (m3 false false false, i3 0) = _ at hl
  rw [m3_fff] at hl
  have hl' : itl (f_X8_pansOf_B4 r) FU ((0 : Int32), (0 : Int32)) = _ := hl
  rw [hl', Option.bind_some]
  have key : ∀ q, ex (pq (fitB r m) q) (nC c) = ex (pq (PR r c m) q) 78 := by
    intro q
    rw [← ex_cut (p := pq (PR r c m) q) (n := nC c) (by omega) (fun k hk => by unfold pq; rw [PR_out (by omega)]; rfl)]
    exact ex_eq (fun i hi hp => ⟨i, hi, by unfold pq; rw [PR_fit hi]; exact hp⟩) (fun i hi hp => ⟨i, hi, by unfold pq at hp; rw [PR_fit hi] at hp; exact hp⟩)
  rw [key 0, key 1, key 2]
theorem needs_tab : ∀ n, n < 79 → f_X7_weighingsFor (i3 n) = itl (f_X8_needsOf_B9 (fun _ => 0) (i3 n)) FU ((0 : Int32), (1 : Int32)) ∧ (f_X7_weighingsFor (i3 n)).isSome = true := by decide +kernel
theorem needsOf_eq {r : Fn} {m c : Nat} (hr : RowS r m) (hm : m ≤ 20) (h0 : r 0 = i3 c) (h4 : r 4 = i3 m) (hc : c < 13) {n : Nat} (hn : n = sm (fun k => (PR r c m k).toNat) 78) (h79 : n < 79) : f_X8_needsOf r = f_X7_weighingsFor (i3 n) := by
  unfold f_X8_needsOf
  rw [leftOf_eq hr hm h0 h4 hc, ← hn, Option.bind_some, (needs_tab n h79).1]
  show (itl (f_X8_needsOf_B9 (fun _ => 0) (i3 n)) FU ((0 : Int32), (1 : Int32))).bind _ = _
  cases itl (f_X8_needsOf_B9 (fun _ => 0) (i3 n)) FU ((0 : Int32), (1 : Int32)) <;> rfl
theorem sm_bool {p : Nat → Bool} : ∀ {n : Nat}, sm (fun k => (p k).toNat) n ≤ n := by
  intro n
  have h := sm_le (f := fun k => (p k).toNat) (c := 1) (n := n) (fun i _ => by cases p i <;> decide)
  omega
