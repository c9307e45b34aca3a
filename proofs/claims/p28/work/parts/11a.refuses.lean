/-! ===== the law's list of refused calls ===== -/
theorem i3_subint {a b : Nat} (ha : a < 2 ^ 30) (hb : b < 2 ^ 30) : (i3 a - i3 b).toInt = (a : Int) - b := by
  rw [Int32.toInt_sub, i3_int (by omega), i3_int (by omega)]
  exact Int.bmod_eq_of_le (by omega) (by omega)
theorem m1_sub {t : Nat} (ht : t < 2 ^ 30) : ((-1 : Int32) - i3 t) < 0 := by
  have e1 : (-1 : Int32).toInt = -1 := by decide
  have e0 : (0 : Int32).toInt = 0 := by decide
  rw [Int32.lt_iff_toInt_lt, Int32.toInt_sub, i3_int (by omega), e1, e0, Int.bmod_eq_of_le (by omega) (by omega)]
  omega
theorem two_sub {t : Nat} (ht : t < 2 ^ 30) : ((2 : Int32) - i3 t) < (3 : Int32) := by
  have e3 : (3 : Int32).toInt = 3 := by decide
  have e2 : ((2 : Int32) - i3 t).toInt = (2 : Int) - t := i3_subint (a := 2) (by decide) ht
  rw [Int32.lt_iff_toInt_lt, e2, e3]
  omega
theorem neg_arm {t : Nat} (ht : t < 2 ^ 30) : ¬ okA (-i3 t) := fun h => by
  have h1 := h.1
  have e1 : (1 : Int32).toInt = 1 := by decide
  rw [Int32.le_iff_toInt_le, Int32.toInt_neg, i3_int (by omega), e1, Int.bmod_eq_of_le (by omega) (by omega)] at h1
  omega
theorem gt_i3 {a b : Nat} (hb : b < 2 ^ 31) (h : a < b) : i3 a < i3 b := (i3_lt (by omega) hb).mpr h
theorem not_self (c : Nat) (x : Int32) : ¬ WS c x x := fun w => by
  have h0 : x = 0 := bt_ext (fun j _ => by
    have := w.2.2.1 j
    rw [bt_zero]
    cases h : bt x j
    · rfl
    · exact absurd ⟨h, h⟩ this)
  exact w.2.2.2 (by rw [h0]; decide)
theorem neg_SetC {c : Nat} (hc : c < 13) {x : Int32} (h : x < 0) : ¬ SetC c x := fun z => out_lt h ((setC_range hc x).mpr z)
theorem big_SetC {c : Nat} (hc : c < 13) : ¬ SetC c (i3 (2 ^ c)) := fun z => by
  have hp := pow_c hc
  have h0 : 0 < 2 ^ c := Nat.pow_pos (by decide)
  exact out_gt (gt_i3 (by omega) (by omega)) ((setC_range hc _).mpr z)
theorem neg_coin {c : Nat} {x : Int32} (hc : c < 13) (h : x < 0) : ¬ ∃ n, n < c ∧ x = i3 n := fun ⟨n, hn, e⟩ => i3_nn (by omega) (e ▸ h)
theorem big_coin {c t : Nat} (hc : c < 13) (ht : t < 2 ^ 30) (h : c ≤ t) : ¬ ∃ n, n < c ∧ i3 t = i3 n := fun ⟨n, hn, e⟩ => by
  have := (i3_eq (by omega) (by omega)).mp e
  omega
theorem rf_454 {v : OBv} {z : RS} {c m x : Nat} {x4 x5 y0 : Int32} (R : RelO v z) (hz : ZC z c m) (hx : x < 100000) (h4 : ¬ SetC c x4) (hy : ¬ ((1 : Int32) ≤ y0 ∧ y0 ≤ (2 : Int32))) : ∃ v', f_L_refuses_b454 v (i3 x) x4 x5 y0 (13 : Int32) = some (true, v') ∧ RelO v' z := by
  have m2 : i3 x - i3 x / (2 : Int32) * (2 : Int32) = i3 (x % 2) := i3_mod (by omega) (by decide : 2 < 2 ^ 31)
  have m9 : i3 x - i3 x / (9 : Int32) * (9 : Int32) = i3 (x % 9) := i3_mod (by omega) (by decide : 9 < 2 ^ 31)
  have m50 : i3 x - i3 x / (50 : Int32) * (50 : Int32) = i3 (x % 50) := i3_mod (by omega) (by decide : 50 < 2 ^ 31)
  have l9 : x % 9 < 9 := Nat.mod_lt _ (by decide)
  have l50 : x % 50 < 50 := Nat.mod_lt _ (by decide)
  have a3 : (3 : Int32) + i3 (x % 9) = i3 (3 + x % 9) := i3_add 3 _
  have a2 : (2 : Int32) + i3 (x % 50) = i3 (2 + x % 50) := i3_add 2 _
  have a61 : (61 : Int32) + i3 (x % 9) = i3 (61 + x % 9) := i3_add 61 _
  unfold f_L_refuses_b454
  rw [m2, m9, m50, a3, a2, a61]
  obtain ⟨v1, E, R⟩ := use (call_13 R y0 0 0) (no_13 z (fun q => hy q.1) 0)
  rw [E, Option.bind_some, if_pos rfl]
  obtain ⟨v2, E, R⟩ := use (call_13 R ((1 : Int32) + i3 (x % 2)) (i3 (3 + x % 9)) 0) (no_13 z (fun q => out_gt (gt_i3 (a := 2) (by omega) (by omega)) q.2) 0)
  rw [E, Option.bind_some, if_pos rfl]
  obtain ⟨v3, E, R⟩ := use (call_14 R x4 0 0) (no_14 hz (fun q => h4 q.1) 0)
  rw [E, Option.bind_some, if_pos rfl]
  obtain ⟨v4, E, R⟩ := use (call_14 R x5 x5 0) (no_14 hz (not_self c x5) 0)
  rw [E, Option.bind_some, if_pos rfl]
  obtain ⟨v5, E, R⟩ := use (call_15 R (i3 (2 + x % 50)) 0 0) (no_15 z (out_gt (gt_i3 (a := 1) (by omega) (by omega))) 0 0)
  rw [E, Option.bind_some, if_pos rfl]
  obtain ⟨v6, E, R⟩ := use (call_16 R ((-1 : Int32) - i3 (x % 9)) 0 0) (no_16 z (out_lt (m1_sub (by omega))) 0 0)
  rw [E, Option.bind_some, if_pos rfl, no_scr0, Option.bind_some, if_pos rfl, no_scr1 _ hx, Option.bind_some, if_pos rfl]
  obtain ⟨v7, E, R⟩ := use (call_sim R (i3 x).toInt64 (i3 (61 + x % 9))) (no_sim z (i3 x).toInt64 (out_gt (gt_i3 (a := 60) (by omega) (by omega))))
  rw [E, Option.bind_some, if_pos rfl]
  exact ⟨_, rfl, R⟩
theorem rf_299 {v : OBv} {z : RS} {c m x : Nat} {x3 x4 x5 y0 : Int32} (R : RelO v z) (hz : ZC z c m) (hx : x < 100000) (h3 : ¬ ∃ n, n < c ∧ x3 = i3 n) (h4 : ¬ SetC c x4) (hy : ¬ okA y0) : ∃ v', f_L_refuses_b299 v (i3 x) x3 x4 x5 y0 (5 : Int32) (7 : Int32) = some (true, v') ∧ RelO v' z := by
  have m2 : i3 x - i3 x / (2 : Int32) * (2 : Int32) = i3 (x % 2) := i3_mod (by omega) (by decide : 2 < 2 ^ 31)
  have m3' : i3 x - i3 x / (3 : Int32) * (3 : Int32) = i3 (x % 3) := i3_mod (by omega) (by decide : 3 < 2 ^ 31)
  have m9 : i3 x - i3 x / (9 : Int32) * (9 : Int32) = i3 (x % 9) := i3_mod (by omega) (by decide : 9 < 2 ^ 31)
  have l9 : x % 9 < 9 := Nat.mod_lt _ (by decide)
  have l3 : x % 3 < 3 := Nat.mod_lt _ (by decide)
  have a3 : (3 : Int32) + i3 (x % 9) = i3 (3 + x % 9) := i3_add 3 _
  have k9 : ¬ ((0 : Int32) ≤ i3 (3 + x % 9) ∧ i3 (3 + x % 9) ≤ (2 : Int32)) := out_gt (gt_i3 (a := 2) (by omega) (by omega))
  have k9' : ¬ ((1 : Int32) ≤ i3 (3 + x % 9) ∧ i3 (3 + x % 9) ≤ (2 : Int32)) := out_gt (gt_i3 (a := 2) (by omega) (by omega))
  unfold f_L_refuses_b299
  rw [m2, m3', m9, a3]
  obtain ⟨v1, E, R⟩ := use (call_7 R 5 y0 0) (no_7 z (fun q => hy q.2) 0)
  rw [E, Option.bind_some, if_pos rfl]
  obtain ⟨v2, E, R⟩ := use (call_8 R x4 0 0) (no_8 hz (fun q => h4 q.1) 0)
  rw [E, Option.bind_some, if_pos rfl]
  obtain ⟨v3, E, R⟩ := use (call_8 R 0 x4 0) (no_8 hz (fun q => h4 q.2.1) 0)
  rw [E, Option.bind_some, if_pos rfl]
  obtain ⟨v4, E, R⟩ := use (call_8 R 0 0 0) (no_8 hz (not_self c 0) 0)
  rw [E, Option.bind_some, if_pos rfl]
  obtain ⟨v5, E, R⟩ := use (call_8 R x5 x5 0) (no_8 hz (not_self c x5) 0)
  rw [E, Option.bind_some, if_pos rfl]
  obtain ⟨v6, E, R⟩ := use (call_acc R x3 true) (no_acc hz h3 true)
  rw [E, Option.bind_some, if_pos rfl]
  obtain ⟨v7, E, R⟩ := use (call_9 R (i3 (3 + x % 9)) 0 0) (no_9 z k9 0 0)
  rw [E, Option.bind_some, if_pos rfl]
  obtain ⟨v8, E, R⟩ := use (call_12 R 0 0 (i3 (3 + x % 9))) (no_12a z k9 0 0)
  rw [E, Option.bind_some, if_pos rfl]
  obtain ⟨v9, E, R⟩ := use (call_12 R x5 x5 (i3 (x % 3))) (no_12b hz (rng_to (n := 2) (by decide) (by omega)) (not_self c x5))
  rw [E, Option.bind_some, if_pos rfl]
  by_cases h0 : i3 (x % 2) = 0
  · rw [if_pos h0]
    exact rf_454 R hz hx h4 (by decide)
  · rw [if_neg h0]
    exact rf_454 R hz hx h4 k9'
theorem arm_21 {t : Nat} (ht : t < 2 ^ 30) : ¬ okA (i3 (21 + t)) := out_gt (gt_i3 (a := 20) (by omega) (by omega))
theorem rf_267 {v : OBv} {z : RS} {c m x : Nat} {x3 x4 x5 y0 : Int32} (R : RelO v z) (hz : ZC z c m) (hx : x < 100000) (h3 : ¬ ∃ n, n < c ∧ x3 = i3 n) (h4 : ¬ SetC c x4) (hy : ¬ okA y0) : ∃ v', f_L_refuses_b267 v (i3 x) x3 x4 x5 y0 (7 : Int32) = some (true, v') ∧ RelO v' z := by
  have m2 : i3 x - i3 x / (2 : Int32) * (2 : Int32) = i3 (x % 2) := i3_mod (by omega) (by decide : 2 < 2 ^ 31)
  have m9 : i3 x - i3 x / (9 : Int32) * (9 : Int32) = i3 (x % 9) := i3_mod (by omega) (by decide : 9 < 2 ^ 31)
  have l9 : x % 9 < 9 := Nat.mod_lt _ (by decide)
  have a21 : (21 : Int32) + i3 (x % 9) = i3 (21 + x % 9) := i3_add 21 _
  unfold f_L_refuses_b267
  rw [m2, m9, a21]
  obtain ⟨v1, E, R⟩ := use (call_7 R y0 5 0) (no_7 z (fun q => hy q.1) 0)
  rw [E, Option.bind_some, if_pos rfl]
  by_cases h0 : i3 (x % 2) = 0
  · rw [if_pos h0]
    exact rf_299 R hz hx h3 h4 (neg_arm (by omega))
  · rw [if_neg h0]
    exact rf_299 R hz hx h3 h4 (arm_21 (by omega))
theorem rf_238 {v : OBv} {z : RS} {c m x n : Nat} {x3 x4 x5 y0 : Int32} (R : RelO v z) (hz : ZC z c m) (hx : x < 100000) (h3 : ¬ ∃ n, n < c ∧ x3 = i3 n) (h4 : ¬ SetC c x4) (hn : 3 ≤ n ∧ n ≤ 12) (hy : ¬ ((0 : Int32) ≤ y0 ∧ y0 ≤ i3 (nC n - 1))) : ∃ v', f_L_refuses_b238 v (i3 x) x3 x4 x5 y0 (i3 n) (6 : Int32) = some (true, v') ∧ RelO v' z := by
  have m2 : i3 x - i3 x / (2 : Int32) * (2 : Int32) = i3 (x % 2) := i3_mod (by omega) (by decide : 2 < 2 ^ 31)
  have m9 : i3 x - i3 x / (9 : Int32) * (9 : Int32) = i3 (x % 9) := i3_mod (by omega) (by decide : 9 < 2 ^ 31)
  have l9 : x % 9 < 9 := Nat.mod_lt _ (by decide)
  have a21 : (21 : Int32) + i3 (x % 9) = i3 (21 + x % 9) := i3_add 21 _
  unfold f_L_refuses_b238
  rw [m2, m9, a21]
  obtain ⟨v1, E, R⟩ := use (call_6 R (i3 n) y0 0) (no_6b z hn hy 0)
  rw [E, Option.bind_some, if_pos rfl]
  by_cases h0 : i3 (x % 2) = 0
  · rw [if_pos h0]
    exact rf_267 R hz hx h3 h4 (by decide)
  · rw [if_neg h0]
    exact rf_267 R hz hx h3 h4 (arm_21 (by omega))
theorem rf_203 {v : OBv} {z : RS} {c m x : Nat} {x3 x4 x5 y0 : Int32} (R : RelO v z) (hz : ZC z c m) (hx : x < 100000) (h3 : ¬ ∃ n, n < c ∧ x3 = i3 n) (h4 : ¬ SetC c x4) (hy : ¬ ((3 : Int32) ≤ y0 ∧ y0 ≤ (12 : Int32))) : ∃ v', f_L_refuses_b203 v (i3 x) x3 x4 x5 y0 (6 : Int32) = some (true, v') ∧ RelO v' z := by
  have m2 : i3 x - i3 x / (2 : Int32) * (2 : Int32) = i3 (x % 2) := i3_mod (by omega) (by decide : 2 < 2 ^ 31)
  have m10 : i3 x - i3 x / (10 : Int32) * (10 : Int32) = i3 (x % 10) := i3_mod (by omega) (by decide : 10 < 2 ^ 31)
  have l10 : x % 10 < 10 := Nat.mod_lt _ (by decide)
  have a3 : (3 : Int32) + i3 (x % 10) = i3 (3 + x % 10) := i3_add 3 _
  have a75 : (75 : Int32) + i3 x = i3 (75 + x) := i3_add 75 _
  have h75 := nC_lt (show 3 + x % 10 < 13 by omega)
  unfold f_L_refuses_b203
  rw [m2, m10, a3, a75]
  obtain ⟨v1, E, R⟩ := use (call_6 R y0 (-1) 0) (no_6a z hy (-1) 0)
  rw [E, Option.bind_some, if_pos rfl]
  by_cases h0 : i3 (x % 2) = 0
  · rw [if_pos h0]
    exact rf_238 R hz hx h3 h4 (by omega) (out_lt (m1_sub (by omega)))
  · rw [if_neg h0]
    exact rf_238 R hz hx h3 h4 (by omega) (out_gt (gt_i3 (by omega) (by omega)))
theorem rf_87 {v : OBv} {z : RS} {c m x : Nat} {x3 x4 x5 y0 : Int32} (R : RelO v z) (hz : ZC z c m) (hx : x < 100000) (h3 : ¬ ∃ n, n < c ∧ x3 = i3 n) (h4 : ¬ SetC c x4) (hy : ¬ ((0 : Int32) ≤ y0 ∧ y0 ≤ (255 : Int32))) : ∃ v', f_L_refuses_b87 v (i3 x) (i3 c) x3 x4 x5 y0 false = some (true, v') ∧ RelO v' z := by
  have hc := hz.c
  have m2 : i3 x - i3 x / (2 : Int32) * (2 : Int32) = i3 (x % 2) := i3_mod (by omega) (by decide : 2 < 2 ^ 31)
  have m9 : i3 x - i3 x / (9 : Int32) * (9 : Int32) = i3 (x % 9) := i3_mod (by omega) (by decide : 9 < 2 ^ 31)
  have m50 : i3 x - i3 x / (50 : Int32) * (50 : Int32) = i3 (x % 50) := i3_mod (by omega) (by decide : 50 < 2 ^ 31)
  have m99 : i3 x - i3 x / (99 : Int32) * (99 : Int32) = i3 (x % 99) := i3_mod (by omega) (by decide : 99 < 2 ^ 31)
  have l9 : x % 9 < 9 := Nat.mod_lt _ (by decide)
  have l50 : x % 50 < 50 := Nat.mod_lt _ (by decide)
  have l99 : x % 99 < 99 := Nat.mod_lt _ (by decide)
  have a9 : (9 : Int32) + i3 (x % 50) = i3 (9 + x % 50) := i3_add 9 _
  have a13 : (13 : Int32) + i3 (x % 99) = i3 (13 + x % 99) := i3_add 13 _
  have a6 : ((6 : Int32) * i3 c + (3 : Int32)) + i3 (x % 99) = i3 (6 * c + 3 + x % 99) := by
    rw [show (6 : Int32) * i3 c = i3 (6 * c) from i3_mul 6 c, show i3 (6 * c) + (3 : Int32) = i3 (6 * c + 3) from i3_add (6 * c) 3, i3_add]
  have hnC : nC c = 6 * c + 3 := by unfold nC; omega
  unfold f_L_refuses_b87
  rw [m2, m9, m50, m99, a9, a13, a6, bfF, no_0 v hy 0 0, Option.bind_some, if_pos rfl]
  obtain ⟨v1, E, R⟩ := use (call_2 R (i3 (9 + x % 50)) 0 0) (no_2 z (out_gt (gt_i3 (a := 8) (by omega) (by omega))) 0 0)
  rw [E, Option.bind_some, if_pos rfl]
  obtain ⟨v2, E, R⟩ := use (call_3 R x3 0 0) (no_3 hz h3 0 0)
  rw [E, Option.bind_some, if_pos rfl]
  obtain ⟨v3, E, R⟩ := use (call_4 R (i3 (6 * c + 3 + x % 99)) 0 0) (no_4 hz (out_gt (gt_i3 (by omega) (by omega))) 0 0)
  rw [E, Option.bind_some, if_pos rfl]
  obtain ⟨v4, E, R⟩ := use (call_2 R 3 0 0) (ab_3 hz 0 0)
  rw [E, Option.bind_some]
  have am : i3 m + i3 (x % 9) = i3 (m + x % 9) := i3_add _ _
  have hout : ¬ ((0 : Int32) ≤ i3 (m + x % 9) ∧ i3 (m + x % 9) ≤ i3 m - (1 : Int32)) := fun q => by
    have q2 := q.2
    have e2 : (i3 m - (1 : Int32)).toInt = (m : Int) - 1 := i3_subint (b := 1) (by omega) (by decide)
    rw [Int32.le_iff_toInt_le, i3_int (by omega), e2] at q2
    omega
  show ∃ v', ((f_O_call v4 (5 : Int32) (i3 m + i3 (x % 9)) (9 : Int32) (0 : Int32)).bind _ : Option _) = _ ∧ _
  rw [am]
  obtain ⟨v5, E, R⟩ := use (call_5 R (i3 (m + x % 9)) 9 0) (no_5 hz hout 9 0)
  rw [E, Option.bind_some, if_pos rfl]
  by_cases h0 : i3 (x % 2) = 0
  · rw [if_pos h0]
    exact rf_203 R hz hx h3 h4 (out_lt (two_sub (by omega)))
  · rw [if_neg h0]
    exact rf_203 R hz hx h3 h4 (out_gt (gt_i3 (a := 12) (by omega) (by omega)))
theorem rf_49 {v : OBv} {z : RS} {c m x : Nat} {x3 y0 : Int32} (R : RelO v z) (hz : ZC z c m) (hx : x < 100000) (h3 : ¬ ∃ n, n < c ∧ x3 = i3 n) (h4 : ¬ SetC c y0) : ∃ v', f_L_refuses_b49 v (i3 x) (i3 c) x3 y0 = some (true, v') ∧ RelO v' z := by
  have hc := hz.c
  have hp := pow_c (show c < 13 by omega)
  have h8 : (2 : Nat) ^ 3 ≤ 2 ^ c := Nat.pow_le_pow_right (by decide) hc.1
  have m2 : i3 x - i3 x / (2 : Int32) * (2 : Int32) = i3 (x % 2) := i3_mod (by omega) (by decide : 2 < 2 ^ 31)
  have m9 : i3 x - i3 x / (9 : Int32) * (9 : Int32) = i3 (x % 9) := i3_mod (by omega) (by decide : 9 < 2 ^ 31)
  have l9 : x % 9 < 9 := Nat.mod_lt _ (by decide)
  have a256 : (256 : Int32) + i3 (x % 9) = i3 (256 + x % 9) := i3_add 256 _
  have hne : ¬ i3 (2 ^ c - 1) = 0 := fun q => by
    have := (i3_eq (b := 0) (by omega) (by decide)).mp q
    omega
  unfold f_L_refuses_b49 f_L_refuses_b62
  rw [mask_eq c (by omega), if_neg hne, m2, m9, a256]
  by_cases h0 : i3 (x % 2) = 0
  · rw [if_pos h0]
    exact rf_87 R hz hx h3 h4 (out_lt (m1_sub (by omega)))
  · rw [if_neg h0]
    exact rf_87 R hz hx h3 h4 (out_gt (gt_i3 (a := 255) (by omega) (by omega)))
theorem refuses_ok {v : OBv} {z : RS} {x : Nat} (R : RelO v z) (hx : x < 100000) : ∃ v', f_L_refuses v (i3 x) = some (true, v') ∧ RelO v' z := by
  obtain ⟨c, m, hz⟩ := R.zc
  have hc := hz.c
  have hp := pow_c (show c < 13 by omega)
  have m2 : i3 x - i3 x / (2 : Int32) * (2 : Int32) = i3 (x % 2) := i3_mod (by omega) (by decide : 2 < 2 ^ 31)
  have m99 : i3 x - i3 x / (99 : Int32) * (99 : Int32) = i3 (x % 99) := i3_mod (by omega) (by decide : 99 < 2 ^ 31)
  have l99 : x % 99 < 99 := Nat.mod_lt _ (by decide)
  unfold f_L_refuses
  obtain ⟨v1, E, R⟩ := use (call_2 R 0 0 0) (ab_0 hz 0 0)
  rw [E, Option.bind_some, m2, m99]
  have key : ∀ x3 : Int32, (¬ ∃ n, n < c ∧ x3 = i3 n) → ∃ v', f_L_refuses_b30 v1 (i3 x) (i3 c) x3 = some (true, v') ∧ RelO v' z := by
    intro x3 h3
    unfold f_L_refuses_b30
    rw [m2, m99, shl_c c (by omega)]
    by_cases h0 : i3 (x % 2) = 0
    · rw [if_pos h0]
      exact rf_49 R hz hx h3 (neg_SetC (by omega) (m1_sub (by omega)))
    · rw [if_neg h0]
      exact rf_49 R hz hx h3 (big_SetC (by omega))
  by_cases h0 : i3 (x % 2) = 0
  · rw [if_pos h0]
    exact key _ (neg_coin (by omega) (m1_sub (by omega)))
  · rw [if_neg h0]
    show ∃ v', f_L_refuses_b30 v1 (i3 x) (i3 c) (i3 c + i3 (x % 99)) = _ ∧ _
    rw [i3_add]
    exact key _ (big_coin (by omega) (by omega) (by omega))
