/-! ===== with the best arms a weighing leaves the fewest cases at worst ===== -/
theorem thr_01 (x y : Int32) : f_L_thrown (if x = y then (1 : Int32) else 0) = some false := by
  by_cases h : x = y
  · rw [if_pos h]; decide
  · rw [if_neg h]; decide
theorem okA_i3 {x : Nat} (h : 1 ≤ x ∧ x ≤ 20) : okA (i3 x) := ⟨(i3_le (a := 1) (by decide) (by omega)).mpr h.1, (i3_le (b := 20) (by omega) (by decide)).mpr h.2⟩
theorem arms_row {v : OBv} {z z1 : RS} {c m : Nat} {x y : Int32} (hz : ZC z c m) (R : RelO v z1) (h : z1.2.1 = upd (upd z.2.1 2 x) 3 y) : ZC z1 c m ∧ PR z1.2.1 c m = PR z.2.1 c m ∧ z1.2.1 2 = x ∧ z1.2.1 3 = y := by
  have hc := hz.c
  have e : ∀ j, j ≠ 2 → j ≠ 3 → z1.2.1 j = z.2.1 j := fun j h2 h3 => by rw [h, upd_ne h3, upd_ne h2]
  refine ⟨ZC.of R ((e 0 (by decide) (by decide)).trans hz.r0) ((e 4 (by decide) (by decide)).trans hz.r4) hc.2.1 hc.2.2, hz.PR (fun t h7 _ => e t (by omega) (by omega)), ?_, ?_⟩
  · rw [h, upd_ne (by decide), upd_at]
  · rw [h, upd_at]
theorem arms_ok {v w : OBv} {z : RS} {c m x : Nat} {a b : Int32} (R : RelO v z) (R' : RelO w z) (hz : ZC z c m) (hx : x < 2 ^ 31) (ha : SetC c a) (hb : SetC c b) (hd : ∀ q, ¬ (bt a q = true ∧ bt b q = true)) : ∃ v' w' z', f_L_arms v w a b (i3 x) = some (true, v', w') ∧ RelO v' z' ∧ RelO w' z' := by
  have hc := hz.c
  unfold f_L_arms
  by_cases h0 : (a ||| b) = 0
  · rw [if_pos h0]
    obtain ⟨v1, E1, R1⟩ := use (call_14 R a b 0) (no_14 hz (fun q => q.2.2.2 h0) 0)
    rw [E1, Option.bind_some, if_pos rfl]
    exact ⟨_, _, z, rfl, R1, R'⟩
  have hw : WS c a b := ⟨ha, hb, hd, h0⟩
  rw [if_neg h0]
  obtain ⟨X, Y, hBA, hr⟩ := qu_try hz hw 0
  obtain ⟨⟨hX1, hX2, hY1, hY2⟩, hmin⟩ := hBA
  obtain ⟨v1, E1, R1⟩ := use (call_14 R a b 0) hr
  obtain ⟨v2, E2, R2⟩ := use (call_2 R1 4 0 0) (ab_4 hz 0 0)
  rw [E1, Option.bind_some, E2, Option.bind_some]
  have m20 : i3 x - i3 x / (20 : Int32) * (20 : Int32) = i3 (x % 20) := i3_mod hx (by decide : 20 < 2 ^ 31)
  have d20 : i3 x / (20 : Int32) = i3 (x / 20) := i3_div hx (by decide : 20 < 2 ^ 31)
  have m20' : i3 (x / 20) - i3 (x / 20) / (20 : Int32) * (20 : Int32) = i3 (x / 20 % 20) := i3_mod (by omega) (by decide : 20 < 2 ^ 31)
  have l1 : x % 20 < 20 := Nat.mod_lt _ (by decide)
  have l2 : x / 20 % 20 < 20 := Nat.mod_lt _ (by decide)
  have hother : (((100 : Int32) * ((1 : Int32) + (i3 x - i3 x / (20 : Int32) * (20 : Int32)))) + (1 : Int32)) + ((i3 x / (20 : Int32)) - (i3 x / (20 : Int32)) / (20 : Int32) * (20 : Int32)) = i3 (100 * (1 + x % 20) + (1 + x / 20 % 20)) := by
    rw [m20, d20, m20', show (1 : Int32) + i3 (x % 20) = i3 (1 + x % 20) from i3_add 1 _, show (100 : Int32) * i3 (1 + x % 20) = i3 (100 * (1 + x % 20)) from i3_mul 100 _, show i3 (100 * (1 + x % 20)) + (1 : Int32) = i3 (100 * (1 + x % 20) + 1) from i3_add _ 1, i3_add]
    exact congrArg i3 (by omega)
  rw [hother]
  generalize hX3 : 1 + x % 20 = X3
  generalize hY3 : 1 + x / 20 % 20 = Y3
  have hX3' : 1 ≤ X3 ∧ X3 ≤ 20 := by omega
  have hY3' : 1 ≤ Y3 ∧ Y3 ≤ 20 := by omega
  have q1 : i3 (100 * X + Y) / (100 : Int32) = i3 X := (i3_div (by omega) (by decide : 100 < 2 ^ 31)).trans (congrArg i3 (by omega))
  have q2 : i3 (100 * X + Y) - i3 (100 * X + Y) / (100 : Int32) * (100 : Int32) = i3 Y := (i3_mod (by omega) (by decide : 100 < 2 ^ 31)).trans (congrArg i3 (by omega))
  have q3 : i3 (100 * X3 + Y3) / (100 : Int32) = i3 X3 := (i3_div (by omega) (by decide : 100 < 2 ^ 31)).trans (congrArg i3 (by omega))
  have q4 : i3 (100 * X3 + Y3) - i3 (100 * X3 + Y3) / (100 : Int32) * (100 : Int32) = i3 Y3 := (i3_mod (by omega) (by decide : 100 < 2 ^ 31)).trans (congrArg i3 (by omega))
  -- the best arms
  obtain ⟨k, hk14, hk⟩ := R2.acts
  obtain ⟨z1, hr1, hrow1, hst1, -⟩ := do_arms hk hk14 ⟨okA_i3 ⟨hX1, hX2⟩, okA_i3 ⟨hY1, hY2⟩⟩ 0
  obtain ⟨v3, E3, R3⟩ := use (call_7 R2 (i3 X) (i3 Y) 0) hr1
  obtain ⟨w3, E3', R3'⟩ := use (call_7 R' (i3 X) (i3 Y) 0) hr1
  obtain ⟨hz1, hP1, ra1, rb1⟩ := arms_row hz R3 hrow1
  obtain ⟨v4, E4, R4⟩ := most_ok R3 hz1 hw
  rw [hP1, ra1, rb1] at E4
  -- other arms
  obtain ⟨k1, hk114, hk1⟩ := R4.acts
  obtain ⟨z2, hr2, hrow2, -, hst2⟩ := do_arms hk1 hk114 ⟨okA_i3 hX3', okA_i3 hY3'⟩ 0
  have hst2 := hst2 _ hst1
  obtain ⟨v5, E5, R5⟩ := use (call_7 R4 (i3 X3) (i3 Y3) 0) hr2
  obtain ⟨w5, E5', R5'⟩ := use (call_7 R3' (i3 X3) (i3 Y3) 0) hr2
  obtain ⟨hz2, hP2, ra2, rb2⟩ := arms_row hz1 R5 hrow2
  rw [hP1] at hP2
  obtain ⟨v6, E6, R6⟩ := most_ok R5 hz2 hw
  rw [hP2, ra2, rb2] at E6
  obtain ⟨X', Y', hBA', hr'⟩ := qu_try hz2 hw 0
  rw [hP2] at hBA'
  have huniq := isBA_uniq hBA' (show isBA (PR z.2.1 c m) a b X Y from ⟨⟨hX1, hX2, hY1, hY2⟩, hmin⟩)
  obtain ⟨v7, E7, R7⟩ := use (call_14 R6 a b 0) hr'
  rw [huniq] at E7
  -- undone
  have hst2' : St1 z2 z1.2.1 := by
    obtain ⟨k, p1, p2, p3, p4, -⟩ := hst2
    exact ⟨k, p1, by omega, p3, p4⟩
  obtain ⟨k3, z3, hk3, hu3, hrows3, hst3⟩ := do_undo hst2' 0 0 0
  have hst3 := hst3 _ hst2
  obtain ⟨v8, E8, R8⟩ := use (call_11 R7 0 0 0) hu3
  obtain ⟨w8, E8', R8'⟩ := use (call_11 R5' 0 0 0) hu3
  obtain ⟨k4, z4, hk4, hu4, hrows4, -⟩ := do_undo hst3 0 0 0
  obtain ⟨v9, E9, R9⟩ := use (call_11 R8 0 0 0) hu4
  obtain ⟨w9, E9', R9'⟩ := use (call_11 R8' 0 0 0) hu4
  have hz4 : ZC z4 c m := hz.ext hrows4
  obtain ⟨v10, E10, R10⟩ := use (call_2 R9 4 0 0) (ab_4 hz4 0 0)
  rw [hrows4 2 (by decide)] at E10
  have K257 : f_L_arms_b257 v7 w5 (z.2.1 2) true = some (true, v10, w9) := by
    unfold f_L_arms_b257
    rw [if_neg bfT, E8, Option.bind_some, thr_no (by omega), Option.bind_some, if_pos bfF, E8', Option.bind_some, thr_no (by omega), Option.bind_some, if_pos bfF, E9, Option.bind_some, thr_no (by omega), Option.bind_some, if_pos bfF, E9', Option.bind_some, thr_no (by omega), Option.bind_some, if_pos bfF, E10, Option.bind_some, if_pos rfl]
  have K238 : f_L_arms_b238 v6 w5 a b (i3 (100 * X + Y)) (z.2.1 2) = some (true, v10, w9) := by
    unfold f_L_arms_b238
    rw [E7, Option.bind_some, if_pos rfl]
    exact K257
  have hm3 := hmin X3 Y3 hX3'.1 hX3'.2 hY3'.1 hY3'.2
  have b1 : W2 (PR z.2.1 c m) a b X Y ≤ 78 := w3_le _ _ _ _ _
  have b2 : W2 (PR z.2.1 c m) a b X3 Y3 ≤ 78 := w3_le _ _ _ _ _
  have E4 : f_L_most v3 a b = some (i3 (W2 (PR z.2.1 c m) a b X Y), v4) := E4
  have E6 : f_L_most v5 a b = some (i3 (W2 (PR z.2.1 c m) a b X3 Y3), v6) := E6
  have K202 : f_L_arms_b202 v5 w5 a b (i3 (100 * X + Y)) (z.2.1 2) (i3 (100 * X3 + Y3)) (i3 (W2 (PR z.2.1 c m) a b X Y)) true = some (true, v10, w9) := by
    unfold f_L_arms_b202
    rw [E6, Option.bind_some, if_neg bfT, if_neg (fun q => by have := (i3_lt (by omega) (by omega)).mp q; omega)]
    by_cases hlt : W2 (PR z.2.1 c m) a b X Y < W2 (PR z.2.1 c m) a b X3 Y3
    · rw [if_pos ((i3_lt (by omega) (by omega)).mpr hlt)]
      exact K238
    · have heq : W2 (PR z.2.1 c m) a b X3 Y3 = W2 (PR z.2.1 c m) a b X Y := by omega
      have hle := hm3.2 heq
      rw [if_neg (fun q => hlt ((i3_lt (by omega) (by omega)).mp q)), if_neg (fun q => by have := (i3_lt (by omega) (by omega)).mp q; omega)]
      exact K238
  have K136 : f_L_arms_b136 v3 w3 a b (i3 (100 * X + Y)) (z.2.1 2) (i3 (100 * X3 + Y3)) true = some (true, v10, w9) := by
    unfold f_L_arms_b136
    rw [E4, Option.bind_some, if_neg bfT, q4, q3, E5, Option.bind_some, thr_01, Option.bind_some, if_pos bfF, E5', Option.bind_some, thr_01, Option.bind_some, if_pos bfF]
    exact K202
  refine ⟨v10, w9, z4, ?_, R10, R9'⟩
  unfold f_L_arms_b70
  rw [if_neg (fun q => by have := (i3_lt (b := 101) (by omega) (by decide)).mp q; omega), if_neg (fun q => by have := (i3_lt (a := 2020) (by decide) (by omega)).mp q; omega), q2, q1, E3, Option.bind_some, thr_01, Option.bind_some, if_pos bfF, E3', Option.bind_some, thr_01, Option.bind_some, if_pos bfF]
  exact K136
