/-! ===== what both tell of a table ===== -/
theorem left_both {tb : TBv} {su r : Fn} {c m : Nat} (h : TabR c m tb su r) : ∃ n, n < 79 ∧ f_X3_count su = some (i3 n) ∧ f_X8_leftOf r = some (i3 n) ∧ ∃ w, f_X7_weighingsFor (i3 n) = some w ∧ f_X8_needsOf r = some w := by
  have hc : c < 13 := by have := h.1.1.2; omega
  have hm : m ≤ 20 := h.1.2.1
  have hn : nP (PR r c m) < 79 := nP_le _
  refine ⟨nP (PR r c m), hn, count_eq h.2.2.2.1, leftOf_eq h.rows hm h.1.2.2.2.1 h.1.2.2.2.2 hc, ?_⟩
  have hN := needsOf_eq h.rows hm h.1.2.2.2.1 h.1.2.2.2.2 hc (n := nP (PR r c m)) rfl hn
  have hs := (needs_tab _ hn).2
  cases hw : f_X7_weighingsFor (i3 (nP (PR r c m))) with
  | none => rw [hw] at hs; exact nomatch hs
  | some w => exact ⟨w, rfl, hN.trans hw⟩
theorem coin_both {tb : TBv} {su r : Fn} {c m : Nat} (h : TabR c m tb su r) {d : Nat} (hd : d < c) : ∃ w, f_X3_coinMayBe su (i3 d) = some w ∧ f_X8_coinOf r (i3 d) = some w := by
  have hc : c < 13 := by have := h.1.1.2; omega
  exact ⟨_, coinMay_eq h.2.2.2.1 (by omega), coinOf_eq h.rows h.1.2.1 h.1.2.2.2.1 h.1.2.2.2.2 hc (by omega)⟩
theorem pans_both {tb : TBv} {su r : Fn} {c m : Nat} (h : TabR c m tb su r) : ∃ w, f_X3_pansMayBe su = some w ∧ f_X8_pansOf r = some w := by
  have hc : c < 13 := by have := h.1.1.2; omega
  exact ⟨_, pans_eq h.2.2.2.1, pansOf_eq h.rows h.1.2.1 h.1.2.2.2.1 h.1.2.2.2.2 hc⟩
theorem isPan_eq (x : Int32) : f_X7_isPan x = some (decide (0 ≤ x ∧ x ≤ (2 : Int32))) := by
  unfold f_X7_isPan
  rcases i3_cases x with hx | ⟨n, hn, rfl⟩
  · rw [if_pos hx, decide_eq_false]
    exact fun z => (nn_iff x).mpr z.1 hx
  · have e3 : ((3 : Int32) ≤ i3 n) ↔ 3 ≤ n := i3_le (by decide : 3 < 2 ^ 31) hn
    have e2 : (i3 n ≤ (2 : Int32)) ↔ n ≤ 2 := i3_le hn (by decide : 2 < 2 ^ 31)
    rw [if_neg (i3_nn hn)]
    by_cases h3 : 3 ≤ n
    · rw [if_pos (e3.mpr h3), decide_eq_false]
      rintro ⟨-, z⟩
      have := e2.mp z
      omega
    · rw [if_neg (fun z => h3 (e3.mp z)), decide_eq_true]
      exact ⟨(nn_iff _).mp (i3_nn hn), e2.mpr (by omega)⟩
/-! ===== the commands of a script ===== -/
section CMD
variable {q a b : Nat}
theorem cg_1 (hq : q < 10) (ha : a < 100) (hb : b < 100) : i3 (10000 * q + 100 * a + b) / (10000 : Int32) = i3 q :=
  (i3_div (by omega) (by decide : 10000 < 2 ^ 31)).trans (congrArg i3 (by omega))
theorem cg_2 (hq : q < 10) (ha : a < 100) (hb : b < 100) : i3 (10000 * q + 100 * a + b) / (100 : Int32) - i3 (10000 * q + 100 * a + b) / (100 : Int32) / (100 : Int32) * (100 : Int32) = i3 a := by
  rw [show i3 (10000 * q + 100 * a + b) / (100 : Int32) = i3 (100 * q + a) from (i3_div (by omega) (by decide : 100 < 2 ^ 31)).trans (congrArg i3 (by omega))]
  exact (i3_mod (by omega) (by decide : 100 < 2 ^ 31)).trans (congrArg i3 (by omega))
theorem cg_3 (hq : q < 10) (ha : a < 100) (hb : b < 100) : i3 (10000 * q + 100 * a + b) - i3 (10000 * q + 100 * a + b) / (100 : Int32) * (100 : Int32) = i3 b :=
  (i3_mod (by omega) (by decide : 100 < 2 ^ 31)).trans (congrArg i3 (by omega))
theorem cg_4 (hq : q < 10) (ha : a < 100) (hb : b < 100) : i3 (10000 * q + 100 * a + b) - i3 (10000 * q + 100 * a + b) / (10 : Int32) * (10 : Int32) = i3 (b % 10) :=
  (i3_mod (by omega) (by decide : 10 < 2 ^ 31)).trans (congrArg i3 (by omega))
theorem cg_5 (hq : q < 10) (ha : a < 100) (hb : b < 100) : i3 (10000 * q + 100 * a + b) - i3 (10000 * q + 100 * a + b) / (1000 : Int32) * (1000 : Int32) = i3 (100 * (a % 10) + b) :=
  (i3_mod (by omega) (by decide : 1000 < 2 ^ 31)).trans (congrArg i3 (by omega))
theorem cg_6 (hq : q < 10) (ha : a < 100) (hb : b < 100) : i3 (10000 * q + 100 * a + b) / (1000 : Int32) - i3 (10000 * q + 100 * a + b) / (1000 : Int32) / (10 : Int32) * (10 : Int32) = i3 (a / 10) := by
  rw [show i3 (10000 * q + 100 * a + b) / (1000 : Int32) = i3 (10 * q + a / 10) from (i3_div (by omega) (by decide : 1000 < 2 ^ 31)).trans (congrArg i3 (by omega))]
  exact (i3_mod (by omega) (by decide : 10 < 2 ^ 31)).trans (congrArg i3 (by omega))
theorem cg_7 (hq : q < 10) (ha : a < 100) (hb : b < 100) : i3 (10000 * q + 100 * a + b) - i3 (10000 * q + 100 * a + b) / (10000 : Int32) * (10000 : Int32) = i3 (100 * a + b) :=
  (i3_mod (by omega) (by decide : 10000 < 2 ^ 31)).trans (congrArg i3 (by omega))
theorem ch_1 (ha : a < 100) (hb : b < 100) : i3 (100 * a + b) / (100 : Int32) = i3 a :=
  (i3_div (by omega) (by decide : 100 < 2 ^ 31)).trans (congrArg i3 (by omega))
theorem ch_2 (ha : a < 100) (hb : b < 100) : i3 (100 * a + b) - i3 (100 * a + b) / (100 : Int32) * (100 : Int32) = i3 b :=
  (i3_mod (by omega) (by decide : 100 < 2 ^ 31)).trans (congrArg i3 (by omega))
theorem ch_3 (ha : a < 100) (hb : b < 100) : i3 (100 * a + b) - i3 (100 * a + b) / (1000 : Int32) * (1000 : Int32) = i3 (100 * (a % 10) + b) :=
  (i3_mod (by omega) (by decide : 1000 < 2 ^ 31)).trans (congrArg i3 (by omega))
theorem ch_4 (ha : a < 100) (hb : b < 100) : i3 (100 * a + b) / (1000 : Int32) = i3 (a / 10) :=
  (i3_div (by omega) (by decide : 1000 < 2 ^ 31)).trans (congrArg i3 (by omega))
end CMD
def CmdR (tb : TBv) (su : Fn) (sc : SCv) (r : Fn) (v0 : MOv) (q a b : Nat) : Prop := ∃ d tb' su' sc' r', f_X7_obeyGroup tb su sc (i3 (10000 * q + 100 * a + b)) = some (d, tb', su', sc') ∧ f_X8_command v0 r (i3 q) (i3 (100 * a + b)) = some (d, r') ∧ TabX tb' su' r'
theorem coin_tail {tb : TBv} {su r : Fn} {c m : Nat} (h : TabR c m tb su r) (sc : SCv) (v0 : MOv) {x y : Int32} (hx : f_X8_isCoin r x = some true) (hy : ¬ y = (-1 : Int32)) : ∃ d tb' su' sc' r', f_X7_tryCoins_b50 tb su sc y ((1 : Int32) <<< (x &&& 31)) = some (d, tb', su', sc') ∧ f_X8_weighs_b28 v0 r x y = some (d, r') ∧ TabX tb' su' r' := by
  obtain ⟨d, tb', su', sc', k1, k2, k3⟩ := tryW_both h sc ((1 : Int32) <<< (x &&& 31)) y
  unfold f_X7_tryCoins_b50 f_X8_weighs_b28
  rw [k1, hx, Option.bind_some, Option.bind_some, if_neg bfT, if_neg hy, k2, Option.bind_some]
  rcases k3 with ⟨rfl, k⟩ | ⟨rfl, o, r', k4, k5, k6⟩
  · rw [if_pos bfF]
    exact ⟨false, tb', su', sc', r, rfl, rfl, k⟩
  · rw [if_neg bfT, k4, Option.bind_some, if_neg (nn_not k5)]
    exact ⟨true, tb', su', sc', r', rfl, rfl, k6⟩
theorem coins_both {tb : TBv} {su r : Fn} {c m a b : Nat} (h : TabR c m tb su r) (sc : SCv) (v0 : MOv) (hb : b < 100) : ∃ d tb' su' sc' r', f_X7_tryCoins tb su sc (i3 a) (i3 b) = some (d, tb', su', sc') ∧ f_X8_weighs v0 r (i3 a) (i3 b) = some (d, r') ∧ TabX tb' su' r' := by
  have hc : c < 13 := by have := h.1.1.2; omega
  obtain ⟨d1, x1, y1, s1⟩ := hasCoin_eq h (i3 a)
  obtain ⟨d2, x2, y2, s2⟩ := hasCoin_eq h (i3 b)
  unfold f_X7_tryCoins f_X8_weighs
  rw [x1, Option.bind_some]
  cases d1
  · rw [if_pos bfF]
    have key : ∀ y : Int32, f_X8_weighs_b28 v0 r (i3 a) y = some (false, r) := fun y => by
      unfold f_X8_weighs_b28
      rw [y1, Option.bind_some, if_pos bfF]
    refine ⟨false, tb, su, sc, r, rfl, ?_, c, m, h⟩
    by_cases h99 : i3 b = (99 : Int32)
    · rw [if_pos h99]; exact key _
    · rw [if_neg h99, y2, Option.bind_some]
      cases d2
      · rw [if_pos bfF]; exact key _
      · rw [if_neg bfT]; exact key _
  · rw [if_neg bfT]
    by_cases h99 : i3 b = (99 : Int32)
    · rw [if_pos h99, if_pos h99]
      unfold f_X7_tryCoins_b30
      rw [if_pos h99]
      exact coin_tail h sc v0 y1 (by decide)
    · rw [if_neg h99, if_neg h99, x2, y2, Option.bind_some, Option.bind_some]
      cases d2
      · rw [if_pos bfF, if_pos bfF]
        refine ⟨false, tb, su, sc, r, rfl, ?_, c, m, h⟩
        unfold f_X8_weighs_b28
        rw [y1, Option.bind_some, if_neg bfT, if_pos rfl]
      · rw [if_neg bfT, if_neg bfT]
        unfold f_X7_tryCoins_b30
        rw [if_neg h99]
        obtain ⟨n, hn, hbn⟩ := s2.mp rfl
        refine coin_tail h sc v0 y1 ?_
        rw [hbn, shl_c n (by omega)]
        have hp := pow_c (show n < 13 by omega)
        exact i3_m1 (by omega)
section CMDS
variable {tb : TBv} {su r : Fn} {c m a b : Nat}
theorem ne_q {x y : Nat} (hx : x < 2 ^ 31) (hy : y < 2 ^ 31) (h : x ≠ y) : ¬ i3 x = i3 y := fun z => h ((i3_eq hx hy).mp z)
theorem cmd1 (h : TabR c m tb su r) (sc : SCv) (v0 : MOv) (ha : a < 100) (hb : b < 100) : CmdR tb su sc r v0 1 a b := by
  have k : i3 (10000 * 1 + 100 * a + b) / (10000 : Int32) = (1 : Int32) := cg_1 (by decide) ha hb
  obtain ⟨d, tb', su', sc', r', t1, t2, t3⟩ := coins_both h sc v0 hb (a := a)
  refine ⟨d, tb', su', sc', r', ?_, ?_, t3⟩
  · unfold f_X7_obeyGroup
    rw [if_pos k, cg_2 (by decide) ha hb, cg_3 (by decide) ha hb, t1]
    rfl
  · unfold f_X8_command
    rw [if_pos (show i3 1 = (1 : Int32) from rfl), ch_2 ha hb, ch_1 ha hb, t2]
    rfl
theorem cmd2 (h : TabR c m tb su r) (sc : SCv) (v0 : MOv) (ha : a < 100) (hb : b < 100) : CmdR tb su sc r v0 2 a b := by
  have k : i3 (10000 * 2 + 100 * a + b) / (10000 : Int32) = (2 : Int32) := cg_1 (by decide) ha hb
  have k1 : ¬ i3 (10000 * 2 + 100 * a + b) / (10000 : Int32) = (1 : Int32) := by rw [k]; decide
  obtain ⟨d, tb', t1, t2, t3⟩ := tryA_both h (i3 a) (i3 b)
  have e1 : f_X7_obeyGroup tb su sc (i3 (10000 * 2 + 100 * a + b)) = some (d, tb', su, sc) := by
    unfold f_X7_obeyGroup
    rw [if_neg k1, if_pos k, cg_2 (by decide) ha hb, cg_3 (by decide) ha hb, t1]
    rfl
  have e2 : ∃ r', f_X8_command v0 r (i3 2) (i3 (100 * a + b)) = some (d, r') ∧ TabX tb' su r' := by
    unfold f_X8_command
    rw [if_neg (show ¬ i3 2 = (1 : Int32) by decide), if_pos (show i3 2 = (2 : Int32) from rfl), ch_2 ha hb, ch_1 ha hb, t2, Option.bind_some]
    rcases t3 with ⟨rfl, k3⟩ | ⟨rfl, o, r', k4, k5, -, k6⟩
    · rw [if_pos bfF]
      exact ⟨r, rfl, k3⟩
    · rw [if_neg bfT, k4, Option.bind_some, if_neg (nn_not k5)]
      exact ⟨r', rfl, k6⟩
  obtain ⟨r', e2, e3⟩ := e2
  exact ⟨d, tb', su, sc, r', e1, e2, e3⟩
theorem blame_tail (h : TabR c m tb su r) (sc : SCv) (v0 : MOv) (x : Int32) (y : Bool) : ∃ d tb' r', f_X7_obeyGroup_b124 tb su sc y x = some (d, tb', su, sc) ∧ f_X8_command_b137 v0 r y x = some (d, r') ∧ TabX tb' su r' := by
  obtain ⟨d, tb', r', k1, k2, k3⟩ := blameCoin_eq h x y
  unfold f_X7_obeyGroup_b124 f_X8_command_b137
  rw [k1, k2, Option.bind_some, Option.bind_some]
  cases d
  · rw [if_pos bfF, if_neg (show ¬ b2i false = (1 : Int32) by decide)]
    exact ⟨false, tb', r', rfl, rfl, c, m, k3⟩
  · rw [if_neg bfT, if_pos (show b2i true = (1 : Int32) by decide)]
    exact ⟨true, tb', r', rfl, rfl, c, m, k3⟩
theorem cmd3 (h : TabR c m tb su r) (sc : SCv) (v0 : MOv) (ha : a < 100) (hb : b < 100) : CmdR tb su sc r v0 3 a b := by
  have k : i3 (10000 * 3 + 100 * a + b) / (10000 : Int32) = (3 : Int32) := cg_1 (by decide) ha hb
  have k1 : ¬ i3 (10000 * 3 + 100 * a + b) / (10000 : Int32) = (1 : Int32) := by rw [k]; decide
  have k2 : ¬ i3 (10000 * 3 + 100 * a + b) / (10000 : Int32) = (2 : Int32) := by rw [k]; decide
  have l1 : ((1 : Int32) < i3 b) ↔ 1 < b := i3_lt (by decide : 1 < 2 ^ 31) (by omega)
  have l2 : ((2 : Int32) ≤ i3 b) ↔ 2 ≤ b := i3_le (by decide : 2 < 2 ^ 31) (by omega)
  obtain ⟨d1, x1, y1, s1⟩ := hasCoin_eq h (i3 a)
  unfold CmdR f_X7_obeyGroup f_X8_command
  rw [if_neg k1, if_neg k2, if_pos k, cg_2 (by decide) ha hb, cg_3 (by decide) ha hb, if_neg (show ¬ i3 3 = (1 : Int32) by decide), if_neg (show ¬ i3 3 = (2 : Int32) by decide), if_pos (show i3 3 = (3 : Int32) from rfl), ch_2 ha hb, ch_1 ha hb]
  by_cases hb1 : 1 < b
  · rw [if_pos (l1.mpr hb1), if_pos (l2.mpr hb1)]
    exact ⟨false, tb, su, sc, r, rfl, rfl, c, m, h⟩
  · rw [if_neg (fun z => hb1 (l1.mp z)), if_neg (fun z => hb1 (l2.mp z)), x1, y1, Option.bind_some, Option.bind_some]
    cases d1
    · rw [if_pos bfF, if_pos bfF]
      exact ⟨false, tb, su, sc, r, rfl, rfl, c, m, h⟩
    · rw [if_neg bfT, if_neg bfT]
      by_cases h1b : i3 b = (1 : Int32)
      · rw [if_pos h1b, if_pos h1b]
        obtain ⟨d, tb', r', z1, z2, z3⟩ := blame_tail h sc v0 (i3 a) true
        exact ⟨d, tb', su, sc, r', z1, z2, z3⟩
      · rw [if_neg h1b, if_neg h1b]
        obtain ⟨d, tb', r', z1, z2, z3⟩ := blame_tail h sc v0 (i3 a) false
        exact ⟨d, tb', su, sc, r', z1, z2, z3⟩
theorem cmd4 (h : TabR c m tb su r) (sc : SCv) (v0 : MOv) (ha : a < 100) (hb : b < 100) : CmdR tb su sc r v0 4 a b := by
  have k : i3 (10000 * 4 + 100 * a + b) / (10000 : Int32) = (4 : Int32) := cg_1 (by decide) ha hb
  have k1 : ¬ i3 (10000 * 4 + 100 * a + b) / (10000 : Int32) = (1 : Int32) := by rw [k]; decide
  have k2 : ¬ i3 (10000 * 4 + 100 * a + b) / (10000 : Int32) = (2 : Int32) := by rw [k]; decide
  have k3 : ¬ i3 (10000 * 4 + 100 * a + b) / (10000 : Int32) = (3 : Int32) := by rw [k]; decide
  have l3 : ((3 : Int32) ≤ i3 (a / 10)) ↔ 3 ≤ a / 10 := i3_le (by decide : 3 < 2 ^ 31) (by omega)
  have l2 : (i3 (a / 10) ≤ (2 : Int32)) ↔ a / 10 ≤ 2 := i3_le (by omega) (by decide : 2 < 2 ^ 31)
  have n1 : (1 : Int32).toNatClampNeg = 1 := by decide
  unfold CmdR f_X7_obeyGroup f_X8_command
  rw [if_neg k1, if_neg k2, if_neg k3, if_pos k, cg_5 (by decide) ha hb, cg_6 (by decide) ha hb, if_neg (show ¬ i3 4 = (1 : Int32) by decide), if_neg (show ¬ i3 4 = (2 : Int32) by decide), if_neg (show ¬ i3 4 = (3 : Int32) by decide), if_pos (show i3 4 = (4 : Int32) from rfl), ch_3 ha hb, ch_4 ha hb, n1]
  by_cases h0 : i3 (100 * (a % 10) + b) = 0
  · rw [if_pos h0, if_pos h0, isPan_eq, Option.bind_some]
    by_cases hp : 3 ≤ a / 10
    · rw [decide_eq_false (fun z => by have := l2.mp z.2; omega), if_pos bfF, if_pos (l3.mpr hp)]
      exact ⟨false, tb, su, sc, r, rfl, rfl, c, m, h⟩
    · rw [decide_eq_true ⟨(nn_iff _).mp (i3_nn (by omega)), l2.mpr (by omega)⟩, if_neg bfT, if_neg (fun z => hp (l3.mp z))]
      obtain ⟨d, tb', r', z1, z2, z3⟩ := blamePan_eq h (i3 (a / 10))
      rw [z1, Option.bind_some]
      have key : (if r 1 - r 1 / (3 : Int32) * (3 : Int32) = i3 (a / 10) then f_X8_command_b186 v0 r true else f_X8_command_b186 v0 r false) = some (d, r') := by
        unfold f_X8_command_b186
        by_cases hq : r 1 - r 1 / (3 : Int32) * (3 : Int32) = i3 (a / 10)
        · rw [decide_eq_true hq] at z2
          rw [if_pos hq, z2, Option.bind_some]
          cases d
          · rw [if_neg (show ¬ b2i false = (1 : Int32) by decide)]
          · rw [if_pos (show b2i true = (1 : Int32) by decide)]
        · rw [decide_eq_false hq] at z2
          rw [if_neg hq, z2, Option.bind_some]
          cases d
          · rw [if_neg (show ¬ b2i false = (1 : Int32) by decide)]
          · rw [if_pos (show b2i true = (1 : Int32) by decide)]
      rw [key]
      cases d
      · rw [if_pos bfF]
        exact ⟨false, tb', su, sc, r', rfl, rfl, c, m, z3⟩
      · rw [if_neg bfT]
        exact ⟨true, tb', su, sc, r', rfl, rfl, c, m, z3⟩
  · rw [if_neg h0, if_neg h0]
    exact ⟨false, tb, su, sc, r, rfl, rfl, c, m, h⟩
theorem cmd5 (h : TabR c m tb su r) (sc : SCv) (v0 : MOv) (ha : a < 100) (hb : b < 100) : CmdR tb su sc r v0 5 a b := by
  have k : i3 (10000 * 5 + 100 * a + b) / (10000 : Int32) = (5 : Int32) := cg_1 (by decide) ha hb
  have k1 : ¬ i3 (10000 * 5 + 100 * a + b) / (10000 : Int32) = (1 : Int32) := by rw [k]; decide
  have k2 : ¬ i3 (10000 * 5 + 100 * a + b) / (10000 : Int32) = (2 : Int32) := by rw [k]; decide
  have k3 : ¬ i3 (10000 * 5 + 100 * a + b) / (10000 : Int32) = (3 : Int32) := by rw [k]; decide
  have k4 : ¬ i3 (10000 * 5 + 100 * a + b) / (10000 : Int32) = (4 : Int32) := by rw [k]; decide
  have n4 : (4 : Int32).toNatClampNeg = 4 := by decide
  unfold CmdR f_X7_obeyGroup f_X8_command
  rw [if_neg k1, if_neg k2, if_neg k3, if_neg k4, if_pos k, cg_7 (by decide) ha hb, if_neg (show ¬ i3 5 = (1 : Int32) by decide), if_neg (show ¬ i3 5 = (2 : Int32) by decide), if_neg (show ¬ i3 5 = (3 : Int32) by decide), if_neg (show ¬ i3 5 = (4 : Int32) by decide), if_pos (show i3 5 = (5 : Int32) from rfl), n4]
  by_cases h0 : i3 (100 * a + b) = 0
  · rw [if_pos h0, if_pos h0]
    obtain ⟨d, tb', su', sc', z1, z2⟩ := tryF_both h sc
    rw [z1, Option.bind_some]
    rcases z2 with ⟨rfl, z3, z4⟩ | ⟨rfl, z3, o, r', z4, z5, z6⟩
    · rw [if_pos bfF, if_pos z3]
      exact ⟨false, tb', su', sc', r, rfl, rfl, z4⟩
    · rw [if_neg bfT, if_neg z3, z4, Option.bind_some, if_neg (nn_not z5)]
      exact ⟨true, tb', su', sc', r', rfl, rfl, z6⟩
  · rw [if_neg h0, if_neg h0]
    exact ⟨false, tb, su, sc, r, rfl, rfl, c, m, h⟩
theorem cmd6 (h : TabR c m tb su r) (sc : SCv) (v0 : MOv) (ha : a < 100) (hb : b < 100) : CmdR tb su sc r v0 6 a b := by
  have k : i3 (10000 * 6 + 100 * a + b) / (10000 : Int32) = (6 : Int32) := cg_1 (by decide) ha hb
  have k1 : ¬ i3 (10000 * 6 + 100 * a + b) / (10000 : Int32) = (1 : Int32) := by rw [k]; decide
  have k2 : ¬ i3 (10000 * 6 + 100 * a + b) / (10000 : Int32) = (2 : Int32) := by rw [k]; decide
  have k3 : ¬ i3 (10000 * 6 + 100 * a + b) / (10000 : Int32) = (3 : Int32) := by rw [k]; decide
  have k4 : ¬ i3 (10000 * 6 + 100 * a + b) / (10000 : Int32) = (4 : Int32) := by rw [k]; decide
  have k5 : ¬ i3 (10000 * 6 + 100 * a + b) / (10000 : Int32) = (5 : Int32) := by rw [k]; decide
  have ea : (i3 a = 0) ↔ a = 0 := i3_eq (by omega) (by decide : 0 < 2 ^ 31)
  have l100 : ((100 : Int32) ≤ i3 (100 * a + b)) ↔ 100 ≤ 100 * a + b := i3_le (by decide : 100 < 2 ^ 31) (by omega)
  obtain ⟨n, hn, x1, x2, -⟩ := left_both h
  unfold CmdR f_X7_obeyGroup f_X8_command
  rw [if_neg k1, if_neg k2, if_neg k3, if_neg k4, if_neg k5, if_pos k, cg_2 (by decide) ha hb, cg_3 (by decide) ha hb, if_neg (show ¬ i3 6 = (1 : Int32) by decide), if_neg (show ¬ i3 6 = (2 : Int32) by decide), if_neg (show ¬ i3 6 = (3 : Int32) by decide), if_neg (show ¬ i3 6 = (4 : Int32) by decide), if_neg (show ¬ i3 6 = (5 : Int32) by decide), if_pos (show i3 6 = (6 : Int32) from rfl)]
  by_cases h0 : a = 0
  · subst h0
    rw [if_pos (ea.mpr rfl), if_neg (fun z => by have := l100.mp z; omega), x1, x2, Option.bind_some, Option.bind_some, show 100 * 0 + b = b by omega]
    by_cases hl : i3 b < i3 n
    · rw [if_pos hl, if_pos hl]
      exact ⟨false, tb, su, sc, r, rfl, rfl, c, m, h⟩
    · rw [if_neg hl, if_neg hl]
      exact ⟨true, tb, su, sc, r, rfl, rfl, c, m, h⟩
  · rw [if_neg (fun z => h0 (ea.mp z)), if_pos (l100.mpr (by omega))]
    exact ⟨false, tb, su, sc, r, rfl, rfl, c, m, h⟩
theorem cmd7 (h : TabR c m tb su r) (sc : SCv) (v0 : MOv) (ha : a < 100) (hb : b < 100) : CmdR tb su sc r v0 7 a b := by
  have k : i3 (10000 * 7 + 100 * a + b) / (10000 : Int32) = (7 : Int32) := cg_1 (by decide) ha hb
  have k1 : ¬ i3 (10000 * 7 + 100 * a + b) / (10000 : Int32) = (1 : Int32) := by rw [k]; decide
  have k2 : ¬ i3 (10000 * 7 + 100 * a + b) / (10000 : Int32) = (2 : Int32) := by rw [k]; decide
  have k3 : ¬ i3 (10000 * 7 + 100 * a + b) / (10000 : Int32) = (3 : Int32) := by rw [k]; decide
  have k4 : ¬ i3 (10000 * 7 + 100 * a + b) / (10000 : Int32) = (4 : Int32) := by rw [k]; decide
  have k5 : ¬ i3 (10000 * 7 + 100 * a + b) / (10000 : Int32) = (5 : Int32) := by rw [k]; decide
  have k6 : ¬ i3 (10000 * 7 + 100 * a + b) / (10000 : Int32) = (6 : Int32) := by rw [k]; decide
  have l9 : ((9 : Int32) < i3 b) ↔ 9 < b := i3_lt (by decide : 9 < 2 ^ 31) (by omega)
  have l10 : ((10 : Int32) ≤ i3 b) ↔ 10 ≤ b := i3_le (by decide : 10 < 2 ^ 31) (by omega)
  obtain ⟨d1, x1, y1, s1⟩ := hasCoin_eq h (i3 a)
  unfold CmdR f_X7_obeyGroup f_X8_command
  rw [if_neg k1, if_neg k2, if_neg k3, if_neg k4, if_neg k5, if_neg k6, if_pos k, cg_2 (by decide) ha hb, cg_3 (by decide) ha hb, cg_4 (by decide) ha hb, if_neg (show ¬ i3 7 = (1 : Int32) by decide), if_neg (show ¬ i3 7 = (2 : Int32) by decide), if_neg (show ¬ i3 7 = (3 : Int32) by decide), if_neg (show ¬ i3 7 = (4 : Int32) by decide), if_neg (show ¬ i3 7 = (5 : Int32) by decide), if_neg (show ¬ i3 7 = (6 : Int32) by decide), if_pos (show i3 7 = (7 : Int32) from rfl), ch_2 ha hb, ch_1 ha hb]
  by_cases h9 : 9 < b
  · rw [if_pos (l9.mpr h9), if_pos (l10.mpr h9)]
    exact ⟨false, tb, su, sc, r, rfl, rfl, c, m, h⟩
  · rw [if_neg (fun z => h9 (l9.mp z)), if_neg (fun z => h9 (l10.mp z)), x1, y1, Option.bind_some, Option.bind_some, show b % 10 = b by omega]
    cases d1
    · rw [if_pos bfF, if_pos bfF]
      exact ⟨false, tb, su, sc, r, rfl, rfl, c, m, h⟩
    · rw [if_neg bfT, if_neg bfT]
      obtain ⟨n, hn, han⟩ := s1.mp rfl
      obtain ⟨w, w1, w2⟩ := coin_both h hn
      rw [han, w1, w2, Option.bind_some, Option.bind_some]
      by_cases hw : w = i3 b
      · rw [if_pos hw, if_pos hw]
        exact ⟨true, tb, su, sc, r, rfl, rfl, c, m, h⟩
      · rw [if_neg hw, if_neg hw]
        exact ⟨false, tb, su, sc, r, rfl, rfl, c, m, h⟩
theorem cmd8 (h : TabR c m tb su r) (sc : SCv) (v0 : MOv) (ha : a < 100) (hb : b < 100) : CmdR tb su sc r v0 8 a b := by
  have k : i3 (10000 * 8 + 100 * a + b) / (10000 : Int32) = (8 : Int32) := cg_1 (by decide) ha hb
  have k1 : ¬ i3 (10000 * 8 + 100 * a + b) / (10000 : Int32) = (1 : Int32) := by rw [k]; decide
  have k2 : ¬ i3 (10000 * 8 + 100 * a + b) / (10000 : Int32) = (2 : Int32) := by rw [k]; decide
  have k3 : ¬ i3 (10000 * 8 + 100 * a + b) / (10000 : Int32) = (3 : Int32) := by rw [k]; decide
  have k4 : ¬ i3 (10000 * 8 + 100 * a + b) / (10000 : Int32) = (4 : Int32) := by rw [k]; decide
  have k5 : ¬ i3 (10000 * 8 + 100 * a + b) / (10000 : Int32) = (5 : Int32) := by rw [k]; decide
  have k6 : ¬ i3 (10000 * 8 + 100 * a + b) / (10000 : Int32) = (6 : Int32) := by rw [k]; decide
  have k7 : ¬ i3 (10000 * 8 + 100 * a + b) / (10000 : Int32) = (7 : Int32) := by rw [k]; decide
  have l9 : ((9 : Int32) < i3 (100 * a + b)) ↔ 9 < 100 * a + b := i3_lt (by decide : 9 < 2 ^ 31) (by omega)
  have l10 : ((10 : Int32) ≤ i3 (100 * a + b)) ↔ 10 ≤ 100 * a + b := i3_le (by decide : 10 < 2 ^ 31) (by omega)
  obtain ⟨w, w1, w2⟩ := pans_both h
  unfold CmdR f_X7_obeyGroup f_X8_command
  rw [if_neg k1, if_neg k2, if_neg k3, if_neg k4, if_neg k5, if_neg k6, if_neg k7, if_pos k, cg_4 (by decide) ha hb, cg_7 (by decide) ha hb, if_neg (show ¬ i3 8 = (1 : Int32) by decide), if_neg (show ¬ i3 8 = (2 : Int32) by decide), if_neg (show ¬ i3 8 = (3 : Int32) by decide), if_neg (show ¬ i3 8 = (4 : Int32) by decide), if_neg (show ¬ i3 8 = (5 : Int32) by decide), if_neg (show ¬ i3 8 = (6 : Int32) by decide), if_neg (show ¬ i3 8 = (7 : Int32) by decide), if_pos (show i3 8 = (8 : Int32) from rfl)]
  by_cases h9 : 9 < 100 * a + b
  · rw [if_pos (l9.mpr h9), if_pos (l10.mpr h9)]
    exact ⟨false, tb, su, sc, r, rfl, rfl, c, m, h⟩
  · rw [if_neg (fun z => h9 (l9.mp z)), if_neg (fun z => h9 (l10.mp z)), w1, w2, Option.bind_some, Option.bind_some, show b % 10 = 100 * a + b by omega]
    by_cases hw : w = i3 (100 * a + b)
    · rw [if_pos hw, if_pos hw]
      exact ⟨true, tb, su, sc, r, rfl, rfl, c, m, h⟩
    · rw [if_neg hw, if_neg hw]
      exact ⟨false, tb, su, sc, r, rfl, rfl, c, m, h⟩
theorem cmd9 (h : TabR c m tb su r) (sc : SCv) (v0 : MOv) (ha : a < 100) (hb : b < 100) : CmdR tb su sc r v0 9 a b := by
  have k : i3 (10000 * 9 + 100 * a + b) / (10000 : Int32) = (9 : Int32) := cg_1 (by decide) ha hb
  have k1 : ¬ i3 (10000 * 9 + 100 * a + b) / (10000 : Int32) = (1 : Int32) := by rw [k]; decide
  have k2 : ¬ i3 (10000 * 9 + 100 * a + b) / (10000 : Int32) = (2 : Int32) := by rw [k]; decide
  have k3 : ¬ i3 (10000 * 9 + 100 * a + b) / (10000 : Int32) = (3 : Int32) := by rw [k]; decide
  have k4 : ¬ i3 (10000 * 9 + 100 * a + b) / (10000 : Int32) = (4 : Int32) := by rw [k]; decide
  have k5 : ¬ i3 (10000 * 9 + 100 * a + b) / (10000 : Int32) = (5 : Int32) := by rw [k]; decide
  have k6 : ¬ i3 (10000 * 9 + 100 * a + b) / (10000 : Int32) = (6 : Int32) := by rw [k]; decide
  have k7 : ¬ i3 (10000 * 9 + 100 * a + b) / (10000 : Int32) = (7 : Int32) := by rw [k]; decide
  have k8 : ¬ i3 (10000 * 9 + 100 * a + b) / (10000 : Int32) = (8 : Int32) := by rw [k]; decide
  have l9 : ((9 : Int32) < i3 (100 * a + b)) ↔ 9 < 100 * a + b := i3_lt (by decide : 9 < 2 ^ 31) (by omega)
  have l10 : ((10 : Int32) ≤ i3 (100 * a + b)) ↔ 10 ≤ 100 * a + b := i3_le (by decide : 10 < 2 ^ 31) (by omega)
  obtain ⟨n, hn, x1, -, w, w1, w2⟩ := left_both h
  unfold CmdR f_X7_obeyGroup f_X8_command
  rw [if_neg k1, if_neg k2, if_neg k3, if_neg k4, if_neg k5, if_neg k6, if_neg k7, if_neg k8, if_pos k, cg_4 (by decide) ha hb, cg_7 (by decide) ha hb, if_neg (show ¬ i3 9 = (1 : Int32) by decide), if_neg (show ¬ i3 9 = (2 : Int32) by decide), if_neg (show ¬ i3 9 = (3 : Int32) by decide), if_neg (show ¬ i3 9 = (4 : Int32) by decide), if_neg (show ¬ i3 9 = (5 : Int32) by decide), if_neg (show ¬ i3 9 = (6 : Int32) by decide), if_neg (show ¬ i3 9 = (7 : Int32) by decide), if_neg (show ¬ i3 9 = (8 : Int32) by decide), if_pos (show i3 9 = (9 : Int32) from rfl)]
  by_cases h9 : 9 < 100 * a + b
  · rw [if_pos (l9.mpr h9), if_pos (l10.mpr h9)]
    exact ⟨false, tb, su, sc, r, rfl, rfl, c, m, h⟩
  · rw [if_neg (fun z => h9 (l9.mp z)), if_neg (fun z => h9 (l10.mp z)), x1, Option.bind_some, w1, w2, Option.bind_some, Option.bind_some, show b % 10 = 100 * a + b by omega]
    by_cases hw : i3 (100 * a + b) < w
    · rw [if_pos hw, if_pos hw]
      exact ⟨false, tb, su, sc, r, rfl, rfl, c, m, h⟩
    · rw [if_neg hw, if_neg hw]
      exact ⟨true, tb, su, sc, r, rfl, rfl, c, m, h⟩
theorem cmd0 (h : TabR c m tb su r) (sc : SCv) (v0 : MOv) (ha : a < 100) (hb : b < 100) : CmdR tb su sc r v0 0 a b := by
  have k : i3 (10000 * 0 + 100 * a + b) / (10000 : Int32) = (0 : Int32) := cg_1 (by decide) ha hb
  have kn : ∀ x : Int32, ¬ (0 : Int32) = x → ¬ i3 (10000 * 0 + 100 * a + b) / (10000 : Int32) = x := fun x hx => by rw [k]; exact hx
  unfold CmdR f_X7_obeyGroup f_X8_command
  rw [if_neg (kn 1 (by decide)), if_neg (kn 2 (by decide)), if_neg (kn 3 (by decide)), if_neg (kn 4 (by decide)), if_neg (kn 5 (by decide)), if_neg (kn 6 (by decide)), if_neg (kn 7 (by decide)), if_neg (kn 8 (by decide)), if_neg (kn 9 (by decide))]
  rw [if_neg (show ¬ i3 0 = (1 : Int32) by decide), if_neg (show ¬ i3 0 = (2 : Int32) by decide), if_neg (show ¬ i3 0 = (3 : Int32) by decide), if_neg (show ¬ i3 0 = (4 : Int32) by decide), if_neg (show ¬ i3 0 = (5 : Int32) by decide), if_neg (show ¬ i3 0 = (6 : Int32) by decide), if_neg (show ¬ i3 0 = (7 : Int32) by decide), if_neg (show ¬ i3 0 = (8 : Int32) by decide), if_neg (show ¬ i3 0 = (9 : Int32) by decide)]
  exact ⟨false, tb, su, sc, r, rfl, rfl, c, m, h⟩
theorem cmd_all (h : TabR c m tb su r) (sc : SCv) (v0 : MOv) {g : Nat} (hg : g < 100000) : ∃ d tb' su' sc' r', f_X7_obeyGroup tb su sc (i3 g) = some (d, tb', su', sc') ∧ f_X8_command v0 r (i3 g / (10000 : Int32)) (i3 g - i3 g / (10000 : Int32) * (10000 : Int32)) = some (d, r') ∧ TabX tb' su' r' := by
  have e1 : i3 g / (10000 : Int32) = i3 (g / 10000) := i3_div (by omega) (by decide : 10000 < 2 ^ 31)
  have e2 : i3 g - i3 g / (10000 : Int32) * (10000 : Int32) = i3 (100 * (g / 100 % 100) + g % 100) := (i3_mod (by omega) (by decide : 10000 < 2 ^ 31)).trans (congrArg i3 (by omega))
  rw [e2, e1]
  have e3 : g = 10000 * (g / 10000) + 100 * (g / 100 % 100) + g % 100 := by omega
  have key : CmdR tb su sc r v0 (g / 10000) (g / 100 % 100) (g % 100) := by
    have ha : g / 100 % 100 < 100 := Nat.mod_lt _ (by decide)
    have hb : g % 100 < 100 := Nat.mod_lt _ (by decide)
    have hq : g / 10000 = 0 ∨ g / 10000 = 1 ∨ g / 10000 = 2 ∨ g / 10000 = 3 ∨ g / 10000 = 4 ∨ g / 10000 = 5 ∨ g / 10000 = 6 ∨ g / 10000 = 7 ∨ g / 10000 = 8 ∨ g / 10000 = 9 := by omega
    rcases hq with hq | hq | hq | hq | hq | hq | hq | hq | hq | hq <;> rw [hq]
    · exact cmd0 h sc v0 ha hb
    · exact cmd1 h sc v0 ha hb
    · exact cmd2 h sc v0 ha hb
    · exact cmd3 h sc v0 ha hb
    · exact cmd4 h sc v0 ha hb
    · exact cmd5 h sc v0 ha hb
    · exact cmd6 h sc v0 ha hb
    · exact cmd7 h sc v0 ha hb
    · exact cmd8 h sc v0 ha hb
    · exact cmd9 h sc v0 ha hb
  obtain ⟨d, tb', su', sc', r', k1, k2, k3⟩ := key
  refine ⟨d, tb', su', sc', r', ?_, k2, k3⟩
  rw [← e3] at k1
  exact k1
end CMDS
