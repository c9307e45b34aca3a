/-! ===== what holds at each table: all of it ===== -/
theorem h349 {v : OBv} {z : RS} {c m x : Nat} (R : RelO v z) (hz : ZC z c m) (hx : x < 2 ^ 31) (w : Fn) : ∃ v', f_L_holds_b349 v w (i3 x) (i3 c) (i3 (nP (PR z.2.1 c m))) (i3 (nP (PR z.2.1 c m))) (m3 (ex (pq (PR z.2.1 c m) 0) 78) (ex (pq (PR z.2.1 c m) 1) 78) (ex (pq (PR z.2.1 c m) 2) 78)) true (i3 (nP (PR z.2.1 c m))) (i3 (sm (iq z.2.1 c) m)) = some (true, v') ∧ RelO v' z := by
  have m2 : i3 x - i3 x / (2 : Int32) * (2 : Int32) = i3 (x % 2) := i3_mod hx (by decide : 2 < 2 ^ 31)
  have a1 : (1 : Int32) + i3 (x % 2) = i3 (1 + x % 2) := i3_add 1 _
  have hjj : 1 + x % 2 = 1 ∨ 1 + x % 2 = 2 := by omega
  have h79 := nP_le (PR z.2.1 c m)
  have hpos := hz.pos
  obtain ⟨k, k1, k2, k3, k4, k5⟩ := needs_ok _ h79 hpos
  have hp5 : 3 ^ k ≤ 81 := by
    have hk : k = 0 ∨ k = 1 ∨ k = 2 ∨ k = 3 ∨ k = 4 := by omega
    rcases hk with rfl | rfl | rfl | rfl | rfl <;> decide
  obtain ⟨v1, E1, R1⟩ := use (call_13 R (i3 (1 + x % 2)) 2 0) (qu_best hz hjj 2 0 (by decide))
  rw [if_neg (by decide), if_neg (by decide)] at E1
  obtain ⟨b, s, t, E2, -, hsh, R2⟩ := call_sh R1 hz
  have E3 := qu_pans R1 hz
  obtain ⟨v4, E4, R4⟩ := use (call_2 R2 6 0 0) (ab_6 hz 0 0)
  unfold f_L_holds_b349
  rw [qu_needs R hz, k2, Option.bind_some, h361 k1, Option.bind_some, m2, a1, E1, Option.bind_some, E2, Option.bind_some, if_neg bfT, if_pos rfl, E3, Option.bind_some, if_pos rfl, if_pos rfl, E4, Option.bind_some, if_pos rfl, if_neg (fun q => by have := (i3_lt (by omega) (by omega)).mp q; omega)]
  by_cases h0 : k = 0
  · subst h0
    rw [if_pos (show i3 0 = (0 : Int32) from rfl), if_pos (show i3 (nP (PR z.2.1 c m)) = (1 : Int32) by rw [k4 rfl]; rfl)]
    exact h477 R4 hz hjj w hsh
  · have hk0 : ¬ i3 k = 0 := fun q => h0 ((i3_eq (b := 0) (by omega) (by decide)).mp q)
    have hd : i3 (3 ^ k) / (3 : Int32) = i3 (3 ^ k / 3) := i3_div (by omega) (by decide : 3 < 2 ^ 31)
    have he : 3 ^ k / 3 = 3 ^ (k - 1) := by
      obtain ⟨j, rfl⟩ : ∃ j, k = j + 1 := ⟨k - 1, by omega⟩
      rw [Nat.pow_succ, Nat.add_sub_cancel]
      exact Nat.mul_div_cancel _ (by decide)
    have hlt := k5 h0
    rw [if_neg hk0, hd, he, if_neg (fun q => by have := (i3_le (by omega) (by omega)).mp q; omega)]
    exact h477 R4 hz hjj w hsh
theorem holds_ok {v : OBv} {z : RS} {x : Nat} (R : RelO v z) (hx : x < 2 ^ 31) : ∃ v', f_L_holds v (i3 x) = some (true, v') ∧ RelO v' z := by
  obtain ⟨c, m, hz⟩ := R.zc
  have hc := hz.c
  have h75 := nC_lt (show c < 13 by omega)
  have h79 := nP_le (PR z.2.1 c m)
  have hpos := hz.pos
  obtain ⟨v1, E1, R1⟩ := use (call_2 R 0 0 0) (ab_0 hz 0 0)
  obtain ⟨v2, E2, R2⟩ := use (call_2 R1 1 0 0) (ab_1 hz 0 0)
  obtain ⟨v3, E3, R3⟩ := use (call_2 R2 2 0 0) (ab_2 hz 0 0)
  obtain ⟨v4, E4, R4⟩ := use (call_2 R3 3 0 0) (ab_3 hz 0 0)
  have hn : i3 (nC c) = ((6 : Int32) * i3 c) + (3 : Int32) := by
    rw [show (6 : Int32) * i3 c = i3 (6 * c) from i3_mul 6 c, show i3 (6 * c) + (3 : Int32) = i3 (6 * c + 3) from i3_add (6 * c) 3]
    unfold nC
    exact congrArg i3 (by omega)
  unfold f_L_holds
  rw [E1, Option.bind_some, E2, Option.bind_some, E3, Option.bind_some, E4, Option.bind_some, if_pos hn, if_neg (fun q => by have := (i3_le (b := 0) (by omega) (by decide)).mp q; omega), if_neg (fun q => by have := (i3_lt (a := 20) (by decide) (by omega)).mp q; omega)]
  obtain ⟨v5, w, F1, R5, hT⟩ := h82 R4 hz (i3 x) (i3 (nP (PR z.2.1 c m))) (i3 m)
  unfold f_L_holds_b77
  rw [F1, Option.bind_some]
  unfold f_L_holds_b183
  obtain ⟨v6, F2, R6⟩ := h186 R5 hz hT (i3 x) (i3 (nC c)) (i3 (nP (PR z.2.1 c m))) (i3 m) (i3 (nP (PR z.2.1 c m))) (m3 (ex (pq (PR z.2.1 c m) 0) 78) (ex (pq (PR z.2.1 c m) 1) 78) (ex (pq (PR z.2.1 c m) 2) 78))
  rw [F2, Option.bind_some]
  unfold f_L_holds_b227
  obtain ⟨v7, F3, R7⟩ := h236 R6 hz w (i3 x) (i3 c) (i3 (nP (PR z.2.1 c m))) (i3 (nP (PR z.2.1 c m))) (m3 (ex (pq (PR z.2.1 c m) 0) 78) (ex (pq (PR z.2.1 c m) 1) 78) (ex (pq (PR z.2.1 c m) 2) 78))
  rw [F3, Option.bind_some]
  exact h349 R7 hz hx w
