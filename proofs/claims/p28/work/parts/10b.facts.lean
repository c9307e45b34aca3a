/-! ===== what is asked, told plainly ===== -/
theorem use {F : Option (Int32 × OBv)} {G : Option (Int32 × RS)} {y : Int32} {w : RS} (H : ∃ x v' z', F = some (x, v') ∧ G = some (x, z') ∧ RelO v' z') (hr : G = some (y, w)) : ∃ v', F = some (y, v') ∧ RelO v' w := by
  obtain ⟨x, v', z', h1, h2, h3⟩ := H
  rw [hr] at h2
  cases (Option.some.inj h2)
  exact ⟨v', h1, h3⟩
/-- c coins, m weighings -/
def ZC (z : RS) (c m : Nat) : Prop := ∃ tb su, TabR c m tb su z.2.1
theorem RelO.zc {v : OBv} {z : RS} (h : RelO v z) : ∃ c m, ZC z c m := by
  obtain ⟨c, m, T⟩ := h.1
  exact ⟨c, m, _, _, T⟩
theorem RelO.tab {v : OBv} {z : RS} {c m : Nat} (h : RelO v z) (hz : ZC z c m) : TabR c m v.2.1 v.2.2.1 z.2.1 := by
  obtain ⟨c', m', T⟩ := h.1
  obtain ⟨tb, su, T2⟩ := hz
  have a1 := T.1.1.2
  have a2 := T2.1.1.2
  have b1 := T.1.2.1
  have b2 := T2.1.2.1
  have e1 : c' = c := (i3_eq (by omega) (by omega)).mp (T.1.2.2.2.1.symm.trans T2.1.2.2.2.1)
  have e2 : m' = m := (i3_eq (by omega) (by omega)).mp (T.1.2.2.2.2.symm.trans T2.1.2.2.2.2)
  subst e1
  subst e2
  exact T
theorem ZC.c {z : RS} {c m : Nat} (h : ZC z c m) : 3 ≤ c ∧ c ≤ 12 ∧ m ≤ 20 := by
  obtain ⟨tb, su, T⟩ := h
  exact ⟨T.1.1.1, T.1.1.2, T.1.2.1⟩
/-- the hidden case is left -/
theorem ZC.hid {z : RS} {c m : Nat} (h : ZC z c m) : ∃ k, k < nC c ∧ z.2.1 1 = i3 k ∧ PR z.2.1 c m k = true := by
  obtain ⟨tb, su, T⟩ := h
  obtain ⟨k, h1, h2, h3⟩ := T.1.2.2.1
  exact ⟨k, h1, h2, by rw [PR_fit h1]; exact h3⟩
theorem sm_pos {f : Nat → Nat} : ∀ {n k : Nat}, k < n → 0 < f k → 0 < sm f n := by
  intro n
  induction n with
  | zero => intro k h; exact absurd h (Nat.not_lt_zero k)
  | succ n ih =>
    intro k h hf
    show 0 < sm f n + f n
    by_cases e : k = n
    · subst e; omega
    · have := ih (show k < n by omega) hf
      omega
theorem ZC.pos {z : RS} {c m : Nat} (h : ZC z c m) : 0 < nP (PR z.2.1 c m) := by
  obtain ⟨k, h1, h2, h3⟩ := h.hid
  have hc := h.c
  have h75 := nC_lt (show c < 13 by omega)
  exact sm_pos (show k < 78 by omega) (by rw [h3]; decide)
theorem ab_0 {z : RS} {c m : Nat} (hz : ZC z c m) (b c' : Int32) : rc2 z (0 : Int32) b c' = some (i3 c, z) := by
  obtain ⟨tb, su, h⟩ := hz
  have hc : c < 13 := by have := h.1.1.2; omega
  have n0 : (0 : Int32).toNatClampNeg = 0 := by decide
  have n4 : (4 : Int32).toNatClampNeg = 4 := by decide
  have hin : f_X8_in (0 : Int32).toInt64 (0 : Int64) (8 : Int64) = _ := in32 0 0 8
  have R : f_X8_about_b18 (uZ z.1) z.2.1 (i3 0) false = some (i3 c, mK (uZ z.1) 0) := by
    unfold f_X8_about_b18
    rw [refuse_no' _, Option.bind_some, if_pos bfF, if_pos (show i3 0 = (0 : Int32) from rfl), n0, h.1.2.2.2.1]
  have R' : f_X8_about_b18 (uZ z.1) z.2.1 (0 : Int32) false = some (i3 c, mK (uZ z.1) 0) := R
  have E : f_X8_about (uZ z.1) z.2.1 (0 : Int32) = some (i3 c, mK (uZ z.1) 0) := by
    unfold f_X8_about
    rw [hin, Option.bind_some, decide_eq_true (by decide), if_neg bfT]
    exact R'
  unfold rc2
  rw [E]
  rfl
theorem ab_1 {z : RS} {c m : Nat} (hz : ZC z c m) (b c' : Int32) : rc2 z (1 : Int32) b c' = some (i3 (nC c), z) := by
  obtain ⟨tb, su, h⟩ := hz
  have hc : c < 13 := by have := h.1.1.2; omega
  have n0 : (0 : Int32).toNatClampNeg = 0 := by decide
  have n4 : (4 : Int32).toNatClampNeg = 4 := by decide
  have hin : f_X8_in (1 : Int32).toInt64 (0 : Int64) (8 : Int64) = _ := in32 1 0 8
  have R : f_X8_about_b18 (uZ z.1) z.2.1 (i3 1) false = some (i3 (nC c), mK (uZ z.1) 0) := by
    unfold f_X8_about_b18
    rw [refuse_no' _, Option.bind_some, if_pos bfF, if_neg (show ¬ i3 1 = (0 : Int32) by decide), if_pos (show i3 1 = (1 : Int32) from rfl), n0, h.1.2.2.2.1, allOf_eq, Option.bind_some]
  have R' : f_X8_about_b18 (uZ z.1) z.2.1 (1 : Int32) false = some (i3 (nC c), mK (uZ z.1) 0) := R
  have E : f_X8_about (uZ z.1) z.2.1 (1 : Int32) = some (i3 (nC c), mK (uZ z.1) 0) := by
    unfold f_X8_about
    rw [hin, Option.bind_some, decide_eq_true (by decide), if_neg bfT]
    exact R'
  unfold rc2
  rw [E]
  rfl
theorem ab_2 {z : RS} {c m : Nat} (hz : ZC z c m) (b c' : Int32) : rc2 z (2 : Int32) b c' = some (i3 (nP (PR z.2.1 c m)), z) := by
  obtain ⟨tb, su, h⟩ := hz
  have hc : c < 13 := by have := h.1.1.2; omega
  have n0 : (0 : Int32).toNatClampNeg = 0 := by decide
  have n4 : (4 : Int32).toNatClampNeg = 4 := by decide
  have hin : f_X8_in (2 : Int32).toInt64 (0 : Int64) (8 : Int64) = _ := in32 2 0 8
  have R : f_X8_about_b18 (uZ z.1) z.2.1 (i3 2) false = some (i3 (nP (PR z.2.1 c m)), mK (uZ z.1) 0) := by
    unfold f_X8_about_b18
    rw [refuse_no' _, Option.bind_some, if_pos bfF, if_neg (show ¬ i3 2 = (0 : Int32) by decide), if_neg (show ¬ i3 2 = (1 : Int32) by decide), if_pos (show i3 2 = (2 : Int32) from rfl), leftOf_eq h.rows h.1.2.1 h.1.2.2.2.1 h.1.2.2.2.2 hc, Option.bind_some]
    rfl
  have R' : f_X8_about_b18 (uZ z.1) z.2.1 (2 : Int32) false = some (i3 (nP (PR z.2.1 c m)), mK (uZ z.1) 0) := R
  have E : f_X8_about (uZ z.1) z.2.1 (2 : Int32) = some (i3 (nP (PR z.2.1 c m)), mK (uZ z.1) 0) := by
    unfold f_X8_about
    rw [hin, Option.bind_some, decide_eq_true (by decide), if_neg bfT]
    exact R'
  unfold rc2
  rw [E]
  rfl
theorem ab_3 {z : RS} {c m : Nat} (hz : ZC z c m) (b c' : Int32) : rc2 z (3 : Int32) b c' = some (i3 m, z) := by
  obtain ⟨tb, su, h⟩ := hz
  have hc : c < 13 := by have := h.1.1.2; omega
  have n0 : (0 : Int32).toNatClampNeg = 0 := by decide
  have n4 : (4 : Int32).toNatClampNeg = 4 := by decide
  have hin : f_X8_in (3 : Int32).toInt64 (0 : Int64) (8 : Int64) = _ := in32 3 0 8
  have R : f_X8_about_b18 (uZ z.1) z.2.1 (i3 3) false = some (i3 m, mK (uZ z.1) 0) := by
    unfold f_X8_about_b18
    rw [refuse_no' _, Option.bind_some, if_pos bfF, if_neg (show ¬ i3 3 = (0 : Int32) by decide), if_neg (show ¬ i3 3 = (1 : Int32) by decide), if_neg (show ¬ i3 3 = (2 : Int32) by decide), if_pos (show i3 3 = (3 : Int32) from rfl), n4, h.1.2.2.2.2]
  have R' : f_X8_about_b18 (uZ z.1) z.2.1 (3 : Int32) false = some (i3 m, mK (uZ z.1) 0) := R
  have E : f_X8_about (uZ z.1) z.2.1 (3 : Int32) = some (i3 m, mK (uZ z.1) 0) := by
    unfold f_X8_about
    rw [hin, Option.bind_some, decide_eq_true (by decide), if_neg bfT]
    exact R'
  unfold rc2
  rw [E]
  rfl
theorem ab_4 {z : RS} {c m : Nat} (hz : ZC z c m) (b c' : Int32) : rc2 z (4 : Int32) b c' = some (z.2.1 2, z) := by
  obtain ⟨tb, su, h⟩ := hz
  have hc : c < 13 := by have := h.1.1.2; omega
  have n0 : (0 : Int32).toNatClampNeg = 0 := by decide
  have n4 : (4 : Int32).toNatClampNeg = 4 := by decide
  have hin : f_X8_in (4 : Int32).toInt64 (0 : Int64) (8 : Int64) = _ := in32 4 0 8
  have R : f_X8_about_b18 (uZ z.1) z.2.1 (i3 4) false = some (z.2.1 2, mK (uZ z.1) 0) := by
    unfold f_X8_about_b18
    rw [refuse_no' _, Option.bind_some, if_pos bfF, if_neg (show ¬ i3 4 = (0 : Int32) by decide), if_neg (show ¬ i3 4 = (1 : Int32) by decide), if_neg (show ¬ i3 4 = (2 : Int32) by decide), if_neg (show ¬ i3 4 = (3 : Int32) by decide), if_pos (show i3 4 = (4 : Int32) from rfl), if_neg (show ¬ (i3 4 - (2 : Int32) < 0 ∨ 107 ≤ (i3 4 - (2 : Int32)).toNatClampNeg) by decide), show (i3 4 - (2 : Int32)).toNatClampNeg = 2 from by decide]
  have R' : f_X8_about_b18 (uZ z.1) z.2.1 (4 : Int32) false = some (z.2.1 2, mK (uZ z.1) 0) := R
  have E : f_X8_about (uZ z.1) z.2.1 (4 : Int32) = some (z.2.1 2, mK (uZ z.1) 0) := by
    unfold f_X8_about
    rw [hin, Option.bind_some, decide_eq_true (by decide), if_neg bfT]
    exact R'
  unfold rc2
  rw [E]
  rfl
theorem ab_6 {z : RS} {c m : Nat} (hz : ZC z c m) (b c' : Int32) : rc2 z (6 : Int32) b c' = some (i3 (sm (iq z.2.1 c) m), z) := by
  obtain ⟨tb, su, h⟩ := hz
  have hc : c < 13 := by have := h.1.1.2; omega
  have n0 : (0 : Int32).toNatClampNeg = 0 := by decide
  have n4 : (4 : Int32).toNatClampNeg = 4 := by decide
  have hin : f_X8_in (6 : Int32).toInt64 (0 : Int64) (8 : Int64) = _ := in32 6 0 8
  have R : f_X8_about_b18 (uZ z.1) z.2.1 (i3 6) false = some (i3 (sm (iq z.2.1 c) m), mK (uZ z.1) 0) := by
    unfold f_X8_about_b18
    rw [refuse_no' _, Option.bind_some, if_pos bfF, if_neg (show ¬ i3 6 = (0 : Int32) by decide), if_neg (show ¬ i3 6 = (1 : Int32) by decide), if_neg (show ¬ i3 6 = (2 : Int32) by decide), if_neg (show ¬ i3 6 = (3 : Int32) by decide), if_neg (show ¬ i3 6 = (4 : Int32) by decide), if_neg (show ¬ i3 6 = (5 : Int32) by decide), if_pos (show i3 6 = (6 : Int32) from rfl), idleR_eq (mK (uZ z.1) 0) h, Option.bind_some]
  have R' : f_X8_about_b18 (uZ z.1) z.2.1 (6 : Int32) false = some (i3 (sm (iq z.2.1 c) m), mK (uZ z.1) 0) := R
  have E : f_X8_about (uZ z.1) z.2.1 (6 : Int32) = some (i3 (sm (iq z.2.1 c) m), mK (uZ z.1) 0) := by
    unfold f_X8_about
    rw [hin, Option.bind_some, decide_eq_true (by decide), if_neg bfT]
    exact R'
  unfold rc2
  rw [E]
  rfl
theorem qu_coin {z : RS} {c m d : Nat} (hz : ZC z c m) (hd : d < c) (b c' : Int32) : rc3 z (i3 d) b c' = some (m3 (ex (c1 (PR z.2.1 c m) d) 78) (ex (c2 (PR z.2.1 c m) d) 78) (ex (c4 (PR z.2.1 c m) d) 78), z) := by
  obtain ⟨tb, su, h⟩ := hz
  have hc : c < 13 := by have := h.1.1.2; omega
  obtain ⟨y, x1, y1, s1⟩ := hasCoin_eq h (i3 d)
  have hy : y = true := s1.mpr ⟨d, hd, rfl⟩
  subst hy
  have E : f_X8_coin (uZ z.1) z.2.1 (i3 d) = some (m3 (ex (c1 (PR z.2.1 c m) d) 78) (ex (c2 (PR z.2.1 c m) d) 78) (ex (c4 (PR z.2.1 c m) d) 78), mK (uZ z.1) 0) := by
    unfold f_X8_coin f_X8_coin_b17
    rw [y1, Option.bind_some, if_neg bfT, refuseB, Option.bind_some, if_pos bfF, coinOf_eq h.rows h.1.2.1 h.1.2.2.2.1 h.1.2.2.2.2 hc (show d < 13 by omega)]
    rfl
  unfold rc3
  rw [E]
  rfl
theorem qu_is {z : RS} {c m k : Nat} (hz : ZC z c m) (hk : k < nC c) (b c' : Int32) : rc4 z (i3 k) b c' = some (b2i (PR z.2.1 c m k), z) := by
  obtain ⟨tb, su, h⟩ := hz
  have hc : c < 13 := by have := h.1.1.2; omega
  have h75 := nC_lt hc
  have n0 : (0 : Int32).toNatClampNeg = 0 := by decide
  have n4 : (4 : Int32).toNatClampNeg = 4 := by decide
  have e2 : i3 (nC c) - (1 : Int32) = i3 (nC c - 1) := i3_sub (b := 1) (by omega)
  have hin : f_X8_in (i3 k).toInt64 (0 : Int64) (i3 (nC c - 1)).toInt64 = _ := in32 (i3 k) 0 (i3 (nC c - 1))
  have hok : (0 : Int32) ≤ i3 k ∧ i3 k ≤ i3 (nC c - 1) := rng_to (by omega) (by omega)
  have hf := fits_eq h.rows h.1.2.1 (show k < 78 by omega)
  have E : f_X8_isLeft (uZ z.1) z.2.1 (i3 k) = some (b2i (fitB z.2.1 m k), mK (uZ z.1) 0) := by
    unfold f_X8_isLeft f_X8_isLeft_b27
    rw [n0, h.1.2.2.2.1, allOf_eq, Option.bind_some, e2, hin, Option.bind_some, decide_eq_true hok, if_neg bfT, refuseB, Option.bind_some, if_pos bfF, n4, h.1.2.2.2.2, hf, Option.bind_some]
    cases fitB z.2.1 m k
    · exact if_pos bfF
    · exact if_neg bfT
  unfold rc4
  rw [E, PR_fit hk]
  rfl
theorem qu_told {z : RS} {c m i j : Nat} (hz : ZC z c m) (hi : i < m) (hj : j ≤ 5) (c' : Int32) : rc5 z (i3 i) (i3 j) c' = some (if j = 5 then i3 (nP (PR z.2.1 c (i + 1))) else z.2.1 (7 + 5 * i + j), z) := by
  obtain ⟨tb, su, h⟩ := hz
  have hc : c < 13 := by have := h.1.1.2; omega
  have hm : m ≤ 20 := h.1.2.1
  have n4 : (4 : Int32).toNatClampNeg = 4 := by decide
  have r4 := h.1.2.2.2.2
  have hin : f_X8_in (i3 i).toInt64 (0 : Int64) (i3 m - (1 : Int32)).toInt64 = _ := in32 (i3 i) 0 (i3 m - (1 : Int32))
  have hin2 : f_X8_in (i3 j).toInt64 (0 : Int64) (5 : Int64) = _ := in32 (i3 j) 0 5
  have hok : (0 : Int32) ≤ i3 i ∧ i3 i ≤ i3 m - (1 : Int32) := by
    rw [show i3 m - (1 : Int32) = i3 (m - 1) from i3_sub (b := 1) (by omega)]
    exact rng_to (by omega) (by omega)
  have hok2 : (0 : Int32) ≤ i3 j ∧ i3 j ≤ (5 : Int32) := rng_to (n := 5) (by decide) hj
  have R1 : f_X8_weighing_b40 (uZ z.1) z.2.1 (i3 i) (i3 j) 0 = some (if j = 5 then i3 (nP (PR z.2.1 c (i + 1))) else z.2.1 (7 + 5 * i + j), mK (uZ z.1) 0) := by
    unfold f_X8_weighing_b40
    rw [refuse_no _, Option.bind_some, if_pos bfF]
    by_cases h5 : j = 5
    · subst h5
      rw [if_pos (show i3 5 = (5 : Int32) from rfl), show i3 i + (1 : Int32) = i3 (i + 1) from i3_add i 1, many_PR (fun q hq => h.rows q (by omega)) (by omega) h.1.2.2.2.1 hc, Option.bind_some, if_pos rfl]
      rfl
    · have e5 : ¬ i3 j = (5 : Int32) := fun z => h5 ((i3_eq (b := 5) (by omega) (by decide)).mp z)
      rw [if_neg e5, at_eq, Option.bind_some, i3_add, if_neg (i3_in (by omega) (by decide)), i3_nat (by omega), if_neg h5]
  have E : f_X8_weighing (uZ z.1) z.2.1 (i3 i) (i3 j) = some (if j = 5 then i3 (nP (PR z.2.1 c (i + 1))) else z.2.1 (7 + 5 * i + j), mK (uZ z.1) 0) := by
    unfold f_X8_weighing
    rw [n4, r4, hin, Option.bind_some, decide_eq_true hok, if_neg bfT, hin2, Option.bind_some, decide_eq_true hok2, if_neg bfT]
    exact R1
  unfold rc5
  rw [E]
  rfl
theorem qu_pans {v : OBv} {z : RS} {c m : Nat} (h : RelO v z) (hz : ZC z c m) : f_X7_pans v.2.1 v.2.2.1 = some (m3 (ex (pq (PR z.2.1 c m) 0) 78) (ex (pq (PR z.2.1 c m) 1) 78) (ex (pq (PR z.2.1 c m) 2) 78)) := by
  have T := h.tab hz
  unfold f_X7_pans
  rw [pans_eq T.2.2.2.1]
  rfl
theorem qu_needs {v : OBv} {z : RS} {c m : Nat} (h : RelO v z) (hz : ZC z c m) : f_X7_needs v.2.1 v.2.2.1 = f_X7_weighingsFor (i3 (nP (PR z.2.1 c m))) := by
  have T := h.tab hz
  have e := count_eq T.2.2.2.1
  unfold f_X7_needs
  rw [e, Option.bind_some]
  show (f_X7_weighingsFor (i3 (nP (PR z.2.1 c m)))).bind _ = _
  cases f_X7_weighingsFor (i3 (nP (PR z.2.1 c m))) <;> rfl
/-! the number of weighings that are needed -/
theorem needs_ok : ∀ n, n < 79 → 0 < n → ∃ k, k < 5 ∧ f_X7_weighingsFor (i3 n) = some (i3 k) ∧ n ≤ 3 ^ k ∧ (k = 0 → n = 1) ∧ (k ≠ 0 → 3 ^ (k - 1) < n) := by
  intro n h1 h2
  have key : ∀ n, n < 79 → 0 < n → (let k := ((f_X7_weighingsFor (i3 n)).getD 0).toNatClampNeg; k < 5 ∧ f_X7_weighingsFor (i3 n) = some (i3 k) ∧ n ≤ 3 ^ k ∧ (k = 0 → n = 1) ∧ (k ≠ 0 → 3 ^ (k - 1) < n)) := by decide +kernel
  exact ⟨_, key n h1 h2⟩
