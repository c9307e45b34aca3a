/-! ===== what is asked, by both ===== -/
def uK (u' u : MOv) (k : Int32) : Prop := u'.1 = k ∧ u'.2.1 = u.2.1 ∧ u'.2.2.1 = u.2.2.1
theorem uK_mK (u : MOv) (k : Int32) : uK (mK u k) u k := ⟨rfl, rfl, rfl⟩
theorem uK_L (u : MOv) (x : Int32) : uK (moL (mK u 0) x) u 0 := ⟨rfl, rfl, rfl⟩
theorem rng_of {x : Int32} {n : Nat} (hn : n < 2 ^ 31) (h : 0 ≤ x ∧ x ≤ i3 n) : ∃ k, k ≤ n ∧ x = i3 k := by
  obtain ⟨k, hk, rfl⟩ := i3_of h.1
  exact ⟨k, (i3_le hk hn).mp h.2, rfl⟩
theorem rng_to {n k : Nat} (hn : n < 2 ^ 31) (h : k ≤ n) : 0 ≤ i3 k ∧ i3 k ≤ i3 n := ⟨(nn_iff _).mp (i3_nn (by omega)), (i3_le (by omega) hn).mpr h⟩
theorem refuse_no' (u : MOv) : f_X8_refused u (b2i false) = some (false, mK u 0) := refuse_no u
theorem about_0 {tb : TBv} {su r : Fn} {c m : Nat} (h : TabR c m tb su r) (u : MOv) : ∃ x, f_X7_about tb su (i3 0) = some (.inl x) ∧ f_X8_about_b18 u r (i3 0) false = some (x, mK u 0) := by
  obtain ⟨f1, f2, f3, f4, f5, f6, f7⟩ := h.2.1
  have n0 : (0 : Int32).toNatClampNeg = 0 := by decide
  have n4 : (4 : Int32).toNatClampNeg = 4 := by decide
  have e1 : f_X4_allCases tb = some (i3 (nC c)) := by
    unfold f_X4_allCases
    rw [f1, casesOf_eq]
    rfl
  have e6 := idleC_eq h
  obtain ⟨q, -, z1, z2, -⟩ := left_both h
  refine ⟨i3 c, ?_, ?_⟩
  · unfold f_X7_about
    rw [if_pos (show i3 0 = (0 : Int32) from rfl), f1]
  · unfold f_X8_about_b18
    rw [refuse_no' u, Option.bind_some, if_pos bfF, if_pos (show i3 0 = (0 : Int32) from rfl), n0, h.1.2.2.2.1]
theorem about_1 {tb : TBv} {su r : Fn} {c m : Nat} (h : TabR c m tb su r) (u : MOv) : ∃ x, f_X7_about tb su (i3 1) = some (.inl x) ∧ f_X8_about_b18 u r (i3 1) false = some (x, mK u 0) := by
  obtain ⟨f1, f2, f3, f4, f5, f6, f7⟩ := h.2.1
  have n0 : (0 : Int32).toNatClampNeg = 0 := by decide
  have n4 : (4 : Int32).toNatClampNeg = 4 := by decide
  have e1 : f_X4_allCases tb = some (i3 (nC c)) := by
    unfold f_X4_allCases
    rw [f1, casesOf_eq]
    rfl
  have e6 := idleC_eq h
  obtain ⟨q, -, z1, z2, -⟩ := left_both h
  refine ⟨i3 (nC c), ?_, ?_⟩
  · unfold f_X7_about
    rw [if_neg (show ¬ i3 1 = (0 : Int32) by decide), if_pos (show i3 1 = (1 : Int32) from rfl), e1, Option.bind_some]
  · unfold f_X8_about_b18
    rw [refuse_no' u, Option.bind_some, if_pos bfF, if_neg (show ¬ i3 1 = (0 : Int32) by decide), if_pos (show i3 1 = (1 : Int32) from rfl), n0, h.1.2.2.2.1, allOf_eq, Option.bind_some]
theorem about_2 {tb : TBv} {su r : Fn} {c m : Nat} (h : TabR c m tb su r) (u : MOv) : ∃ x, f_X7_about tb su (i3 2) = some (.inl x) ∧ f_X8_about_b18 u r (i3 2) false = some (x, mK u 0) := by
  obtain ⟨f1, f2, f3, f4, f5, f6, f7⟩ := h.2.1
  have n0 : (0 : Int32).toNatClampNeg = 0 := by decide
  have n4 : (4 : Int32).toNatClampNeg = 4 := by decide
  have e1 : f_X4_allCases tb = some (i3 (nC c)) := by
    unfold f_X4_allCases
    rw [f1, casesOf_eq]
    rfl
  have e6 := idleC_eq h
  obtain ⟨q, -, z1, z2, -⟩ := left_both h
  refine ⟨i3 q, ?_, ?_⟩
  · unfold f_X7_about
    rw [if_neg (show ¬ i3 2 = (0 : Int32) by decide), if_neg (show ¬ i3 2 = (1 : Int32) by decide), if_pos (show i3 2 = (2 : Int32) from rfl), z1, Option.bind_some]
  · unfold f_X8_about_b18
    rw [refuse_no' u, Option.bind_some, if_pos bfF, if_neg (show ¬ i3 2 = (0 : Int32) by decide), if_neg (show ¬ i3 2 = (1 : Int32) by decide), if_pos (show i3 2 = (2 : Int32) from rfl), z2, Option.bind_some]
theorem about_3 {tb : TBv} {su r : Fn} {c m : Nat} (h : TabR c m tb su r) (u : MOv) : ∃ x, f_X7_about tb su (i3 3) = some (.inl x) ∧ f_X8_about_b18 u r (i3 3) false = some (x, mK u 0) := by
  obtain ⟨f1, f2, f3, f4, f5, f6, f7⟩ := h.2.1
  have n0 : (0 : Int32).toNatClampNeg = 0 := by decide
  have n4 : (4 : Int32).toNatClampNeg = 4 := by decide
  have e1 : f_X4_allCases tb = some (i3 (nC c)) := by
    unfold f_X4_allCases
    rw [f1, casesOf_eq]
    rfl
  have e6 := idleC_eq h
  obtain ⟨q, -, z1, z2, -⟩ := left_both h
  refine ⟨i3 m, ?_, ?_⟩
  · unfold f_X7_about
    rw [if_neg (show ¬ i3 3 = (0 : Int32) by decide), if_neg (show ¬ i3 3 = (1 : Int32) by decide), if_neg (show ¬ i3 3 = (2 : Int32) by decide), if_pos (show i3 3 = (3 : Int32) from rfl), f7]
  · unfold f_X8_about_b18
    rw [refuse_no' u, Option.bind_some, if_pos bfF, if_neg (show ¬ i3 3 = (0 : Int32) by decide), if_neg (show ¬ i3 3 = (1 : Int32) by decide), if_neg (show ¬ i3 3 = (2 : Int32) by decide), if_pos (show i3 3 = (3 : Int32) from rfl), n4, h.1.2.2.2.2]
theorem about_4 {tb : TBv} {su r : Fn} {c m : Nat} (h : TabR c m tb su r) (u : MOv) : ∃ x, f_X7_about tb su (i3 4) = some (.inl x) ∧ f_X8_about_b18 u r (i3 4) false = some (x, mK u 0) := by
  obtain ⟨f1, f2, f3, f4, f5, f6, f7⟩ := h.2.1
  have n0 : (0 : Int32).toNatClampNeg = 0 := by decide
  have n4 : (4 : Int32).toNatClampNeg = 4 := by decide
  have e1 : f_X4_allCases tb = some (i3 (nC c)) := by
    unfold f_X4_allCases
    rw [f1, casesOf_eq]
    rfl
  have e6 := idleC_eq h
  obtain ⟨q, -, z1, z2, -⟩ := left_both h
  refine ⟨r 2, ?_, ?_⟩
  · unfold f_X7_about
    rw [if_neg (show ¬ i3 4 = (0 : Int32) by decide), if_neg (show ¬ i3 4 = (1 : Int32) by decide), if_neg (show ¬ i3 4 = (2 : Int32) by decide), if_neg (show ¬ i3 4 = (3 : Int32) by decide), if_pos (show i3 4 = (4 : Int32) from rfl), f3]
  · unfold f_X8_about_b18
    rw [refuse_no' u, Option.bind_some, if_pos bfF, if_neg (show ¬ i3 4 = (0 : Int32) by decide), if_neg (show ¬ i3 4 = (1 : Int32) by decide), if_neg (show ¬ i3 4 = (2 : Int32) by decide), if_neg (show ¬ i3 4 = (3 : Int32) by decide), if_pos (show i3 4 = (4 : Int32) from rfl), if_neg (show ¬ (i3 4 - (2 : Int32) < 0 ∨ 107 ≤ (i3 4 - (2 : Int32)).toNatClampNeg) by decide), show (i3 4 - (2 : Int32)).toNatClampNeg = 2 from by decide]
theorem about_5 {tb : TBv} {su r : Fn} {c m : Nat} (h : TabR c m tb su r) (u : MOv) : ∃ x, f_X7_about tb su (i3 5) = some (.inl x) ∧ f_X8_about_b18 u r (i3 5) false = some (x, mK u 0) := by
  obtain ⟨f1, f2, f3, f4, f5, f6, f7⟩ := h.2.1
  have n0 : (0 : Int32).toNatClampNeg = 0 := by decide
  have n4 : (4 : Int32).toNatClampNeg = 4 := by decide
  have e1 : f_X4_allCases tb = some (i3 (nC c)) := by
    unfold f_X4_allCases
    rw [f1, casesOf_eq]
    rfl
  have e6 := idleC_eq h
  obtain ⟨q, -, z1, z2, -⟩ := left_both h
  refine ⟨r 3, ?_, ?_⟩
  · unfold f_X7_about
    rw [if_neg (show ¬ i3 5 = (0 : Int32) by decide), if_neg (show ¬ i3 5 = (1 : Int32) by decide), if_neg (show ¬ i3 5 = (2 : Int32) by decide), if_neg (show ¬ i3 5 = (3 : Int32) by decide), if_neg (show ¬ i3 5 = (4 : Int32) by decide), if_pos (show i3 5 = (5 : Int32) from rfl), f4]
  · unfold f_X8_about_b18
    rw [refuse_no' u, Option.bind_some, if_pos bfF, if_neg (show ¬ i3 5 = (0 : Int32) by decide), if_neg (show ¬ i3 5 = (1 : Int32) by decide), if_neg (show ¬ i3 5 = (2 : Int32) by decide), if_neg (show ¬ i3 5 = (3 : Int32) by decide), if_neg (show ¬ i3 5 = (4 : Int32) by decide), if_pos (show i3 5 = (5 : Int32) from rfl), if_neg (show ¬ (i3 5 - (2 : Int32) < 0 ∨ 107 ≤ (i3 5 - (2 : Int32)).toNatClampNeg) by decide), show (i3 5 - (2 : Int32)).toNatClampNeg = 3 from by decide]
theorem about_6 {tb : TBv} {su r : Fn} {c m : Nat} (h : TabR c m tb su r) (u : MOv) : ∃ x, f_X7_about tb su (i3 6) = some (.inl x) ∧ f_X8_about_b18 u r (i3 6) false = some (x, mK u 0) := by
  obtain ⟨f1, f2, f3, f4, f5, f6, f7⟩ := h.2.1
  have n0 : (0 : Int32).toNatClampNeg = 0 := by decide
  have n4 : (4 : Int32).toNatClampNeg = 4 := by decide
  have e1 : f_X4_allCases tb = some (i3 (nC c)) := by
    unfold f_X4_allCases
    rw [f1, casesOf_eq]
    rfl
  have e6 := idleC_eq h
  obtain ⟨q, -, z1, z2, -⟩ := left_both h
  refine ⟨i3 (sm (iq r c) m), ?_, ?_⟩
  · unfold f_X7_about
    rw [if_neg (show ¬ i3 6 = (0 : Int32) by decide), if_neg (show ¬ i3 6 = (1 : Int32) by decide), if_neg (show ¬ i3 6 = (2 : Int32) by decide), if_neg (show ¬ i3 6 = (3 : Int32) by decide), if_neg (show ¬ i3 6 = (4 : Int32) by decide), if_neg (show ¬ i3 6 = (5 : Int32) by decide), if_pos (show i3 6 = (6 : Int32) from rfl), e6, Option.bind_some]
  · unfold f_X8_about_b18
    rw [refuse_no' u, Option.bind_some, if_pos bfF, if_neg (show ¬ i3 6 = (0 : Int32) by decide), if_neg (show ¬ i3 6 = (1 : Int32) by decide), if_neg (show ¬ i3 6 = (2 : Int32) by decide), if_neg (show ¬ i3 6 = (3 : Int32) by decide), if_neg (show ¬ i3 6 = (4 : Int32) by decide), if_neg (show ¬ i3 6 = (5 : Int32) by decide), if_pos (show i3 6 = (6 : Int32) from rfl), idleR_eq (mK u 0) h, Option.bind_some]
theorem about_7 {tb : TBv} {su r : Fn} {c m : Nat} (h : TabR c m tb su r) (u : MOv) : ∃ x, f_X7_about tb su (i3 7) = some (.inl x) ∧ f_X8_about_b18 u r (i3 7) false = some (x, mK u 0) := by
  obtain ⟨f1, f2, f3, f4, f5, f6, f7⟩ := h.2.1
  have n0 : (0 : Int32).toNatClampNeg = 0 := by decide
  have n4 : (4 : Int32).toNatClampNeg = 4 := by decide
  have e1 : f_X4_allCases tb = some (i3 (nC c)) := by
    unfold f_X4_allCases
    rw [f1, casesOf_eq]
    rfl
  have e6 := idleC_eq h
  obtain ⟨q, -, z1, z2, -⟩ := left_both h
  refine ⟨r 5, ?_, ?_⟩
  · unfold f_X7_about
    rw [if_neg (show ¬ i3 7 = (0 : Int32) by decide), if_neg (show ¬ i3 7 = (1 : Int32) by decide), if_neg (show ¬ i3 7 = (2 : Int32) by decide), if_neg (show ¬ i3 7 = (3 : Int32) by decide), if_neg (show ¬ i3 7 = (4 : Int32) by decide), if_neg (show ¬ i3 7 = (5 : Int32) by decide), if_neg (show ¬ i3 7 = (6 : Int32) by decide), if_pos (show i3 7 = (7 : Int32) from rfl), f5]
  · unfold f_X8_about_b18
    rw [refuse_no' u, Option.bind_some, if_pos bfF, if_neg (show ¬ i3 7 = (0 : Int32) by decide), if_neg (show ¬ i3 7 = (1 : Int32) by decide), if_neg (show ¬ i3 7 = (2 : Int32) by decide), if_neg (show ¬ i3 7 = (3 : Int32) by decide), if_neg (show ¬ i3 7 = (4 : Int32) by decide), if_neg (show ¬ i3 7 = (5 : Int32) by decide), if_neg (show ¬ i3 7 = (6 : Int32) by decide), if_neg (show ¬ (i3 7 - (2 : Int32) < 0 ∨ 107 ≤ (i3 7 - (2 : Int32)).toNatClampNeg) by decide), show (i3 7 - (2 : Int32)).toNatClampNeg = 5 from by decide]
theorem about_8 {tb : TBv} {su r : Fn} {c m : Nat} (h : TabR c m tb su r) (u : MOv) : ∃ x, f_X7_about tb su (i3 8) = some (.inl x) ∧ f_X8_about_b18 u r (i3 8) false = some (x, mK u 0) := by
  obtain ⟨f1, f2, f3, f4, f5, f6, f7⟩ := h.2.1
  have n0 : (0 : Int32).toNatClampNeg = 0 := by decide
  have n4 : (4 : Int32).toNatClampNeg = 4 := by decide
  have e1 : f_X4_allCases tb = some (i3 (nC c)) := by
    unfold f_X4_allCases
    rw [f1, casesOf_eq]
    rfl
  have e6 := idleC_eq h
  obtain ⟨q, -, z1, z2, -⟩ := left_both h
  refine ⟨r 6, ?_, ?_⟩
  · unfold f_X7_about
    rw [if_neg (show ¬ i3 8 = (0 : Int32) by decide), if_neg (show ¬ i3 8 = (1 : Int32) by decide), if_neg (show ¬ i3 8 = (2 : Int32) by decide), if_neg (show ¬ i3 8 = (3 : Int32) by decide), if_neg (show ¬ i3 8 = (4 : Int32) by decide), if_neg (show ¬ i3 8 = (5 : Int32) by decide), if_neg (show ¬ i3 8 = (6 : Int32) by decide), if_neg (show ¬ i3 8 = (7 : Int32) by decide), if_pos (show i3 8 = (8 : Int32) from rfl), f6]
  · unfold f_X8_about_b18
    rw [refuse_no' u, Option.bind_some, if_pos bfF, if_neg (show ¬ i3 8 = (0 : Int32) by decide), if_neg (show ¬ i3 8 = (1 : Int32) by decide), if_neg (show ¬ i3 8 = (2 : Int32) by decide), if_neg (show ¬ i3 8 = (3 : Int32) by decide), if_neg (show ¬ i3 8 = (4 : Int32) by decide), if_neg (show ¬ i3 8 = (5 : Int32) by decide), if_neg (show ¬ i3 8 = (6 : Int32) by decide), if_neg (show ¬ (i3 8 - (2 : Int32) < 0 ∨ 107 ≤ (i3 8 - (2 : Int32)).toNatClampNeg) by decide), show (i3 8 - (2 : Int32)).toNatClampNeg = 6 from by decide]
theorem about_eq {tb : TBv} {su r : Fn} (h : TabX tb su r) (u : MOv) (vo : FnL) (p1 : Int32) : ∃ k w b, f_W_about tb su vo p1 = some (k, w) ∧ f_X8_about u r p1 = some (b, mK u k) ∧ (k = 0 → w 0 = b.toInt64) := by
  obtain ⟨c, m, h⟩ := h
  have hin : f_X8_in p1.toInt64 (0 : Int64) (8 : Int64) = _ := in32 p1 0 8
  by_cases hok : (0 : Int32) ≤ p1 ∧ p1 ≤ (8 : Int32)
  · obtain ⟨n, hn, rfl⟩ := rng_of (n := 8) (by decide) hok
    have key : ∃ x, f_X7_about tb su (i3 n) = some (.inl x) ∧ f_X8_about_b18 u r (i3 n) false = some (x, mK u 0) := by
      have hq : n = 0 ∨ n = 1 ∨ n = 2 ∨ n = 3 ∨ n = 4 ∨ n = 5 ∨ n = 6 ∨ n = 7 ∨ n = 8 := by omega
      rcases hq with rfl | rfl | rfl | rfl | rfl | rfl | rfl | rfl | rfl
      · exact about_0 h u
      · exact about_1 h u
      · exact about_2 h u
      · exact about_3 h u
      · exact about_4 h u
      · exact about_5 h u
      · exact about_6 h u
      · exact about_7 h u
      · exact about_8 h u
    obtain ⟨x, k1, k2⟩ := key
    refine ⟨0, _, x, ?_, ?_, fun _ => vo_0 vo _⟩
    · unfold f_W_about
      rw [k1]
      rfl
    · unfold f_X8_about
      rw [hin, Option.bind_some, decide_eq_true hok, if_neg bfT]
      exact k2
  · have hne : ∀ x : Int32, (0 : Int32) ≤ x ∧ x ≤ (8 : Int32) → ¬ p1 = x := fun x hx z => hok (z ▸ hx)
    refine ⟨1, vo, 0, ?_, ?_, fun z => absurd z (by decide)⟩
    · unfold f_W_about f_X7_about
      rw [if_neg (hne 0 (by decide)), if_neg (hne 1 (by decide)), if_neg (hne 2 (by decide)), if_neg (hne 3 (by decide)), if_neg (hne 4 (by decide)), if_neg (hne 5 (by decide)), if_neg (hne 6 (by decide)), if_neg (hne 7 (by decide)), if_neg (hne 8 (by decide))]
      rfl
    · unfold f_X8_about f_X8_about_b18
      rw [hin, Option.bind_some, decide_eq_false hok, if_pos bfF, refuseB, Option.bind_some, if_neg bfT]
      rfl
theorem coin_eq {tb : TBv} {su r : Fn} (h : TabX tb su r) (u : MOv) (vo : FnL) (p1 : Int32) : ∃ k w b, f_W_coin tb su vo p1 = some (k, w) ∧ f_X8_coin u r p1 = some (b, mK u k) ∧ (k = 0 → w 0 = b.toInt64) := by
  obtain ⟨c, m, h⟩ := h
  obtain ⟨d, x1, y1, s1⟩ := hasCoin_eq h p1
  cases d
  · refine ⟨1, vo, 0, ?_, ?_, fun z => absurd z (by decide)⟩
    · unfold f_W_coin f_X7_coin
      rw [x1, Option.bind_some, if_pos bfF]
      rfl
    · unfold f_X8_coin f_X8_coin_b17
      rw [y1, Option.bind_some, if_pos bfF, refuseB, Option.bind_some, if_neg bfT]
      rfl
  · obtain ⟨n, hn, rfl⟩ := s1.mp rfl
    obtain ⟨w, w1, w2⟩ := coin_both h hn
    refine ⟨0, _, w, ?_, ?_, fun _ => vo_0 vo _⟩
    · unfold f_W_coin f_X7_coin
      rw [x1, Option.bind_some, if_neg bfT, w1]
      rfl
    · unfold f_X8_coin f_X8_coin_b17
      rw [y1, Option.bind_some, if_neg bfT, refuseB, Option.bind_some, if_pos bfF, w2]
      rfl
theorem pans_ask {tb : TBv} {su r : Fn} (h : TabX tb su r) (u : MOv) : ∃ b, f_X7_pans tb su = some b ∧ f_X8_pans u r = some (b, mK u 0) := by
  obtain ⟨c, m, h⟩ := h
  obtain ⟨w, w1, w2⟩ := pans_both h
  refine ⟨w, ?_, ?_⟩
  · unfold f_X7_pans
    rw [w1]
    rfl
  · unfold f_X8_pans
    rw [w2]
    rfl
theorem needs_ask {tb : TBv} {su r : Fn} (h : TabX tb su r) (u : MOv) : ∃ b, f_X7_needs tb su = some b ∧ f_X8_needs u r = some (b, mK u 0) := by
  obtain ⟨c, m, h⟩ := h
  obtain ⟨n, -, z1, -, w, w1, w2⟩ := left_both h
  refine ⟨w, ?_, ?_⟩
  · unfold f_X7_needs
    rw [z1, Option.bind_some, w1]
    rfl
  · unfold f_X8_needs
    rw [w2]
    rfl
theorem isLeft_eq {tb : TBv} {su r : Fn} (h : TabX tb su r) (u : MOv) (vo : FnL) (p1 : Int32) : ∃ k w b, f_W_isLeft tb su vo p1 = some (k, w) ∧ f_X8_isLeft u r p1 = some (b, mK u k) ∧ (k = 0 → w 0 = b.toInt64) := by
  obtain ⟨c, m, h⟩ := h
  have hc : c < 13 := by have := h.1.1.2; omega
  have h75 := nC_lt hc
  have hpos : 1 ≤ nC c := by unfold nC; omega
  have n0 : (0 : Int32).toNatClampNeg = 0 := by decide
  have n4 : (4 : Int32).toNatClampNeg = 4 := by decide
  have e1 : f_X4_allCases tb = some (i3 (nC c)) := by
    unfold f_X4_allCases
    rw [h.2.1.1, casesOf_eq]
    rfl
  have e2 : i3 (nC c) - (1 : Int32) = i3 (nC c - 1) := i3_sub (b := 1) hpos
  have hin : f_X8_in p1.toInt64 (0 : Int64) (i3 (nC c - 1)).toInt64 = _ := in32 p1 0 (i3 (nC c - 1))
  by_cases hok : (0 : Int32) ≤ p1 ∧ p1 ≤ i3 (nC c - 1)
  · obtain ⟨n, hn, rfl⟩ := rng_of (show nC c - 1 < 2 ^ 31 by omega) hok
    have hlt : i3 n < i3 (nC c) := (i3_lt (by omega) (by omega)).mpr (by omega)
    have hf := fits_eq h.rows h.1.2.1 (show n < 78 by omega)
    have hh := has_eq h.2.2.2.1 (show n < 78 by omega)
    have hP : PR r c m n = fitB r m n := by
      unfold PR
      rw [decide_eq_true (show n < nC c by omega)]
      rfl
    rw [hP] at hh
    have C1 : f_X7_isLeft tb su (i3 n) = some (.inl (b2i (fitB r m n))) := by
      unfold f_X7_isLeft
      rw [if_neg (i3_nn (by omega)), e1, Option.bind_some, if_pos hlt, hh, Option.bind_some]
      cases fitB r m n
      · exact if_pos bfF
      · exact if_neg bfT
    refine ⟨0, _, b2i (fitB r m n), ?_, ?_, fun _ => vo_0 vo _⟩
    · unfold f_W_isLeft
      rw [C1]
      rfl
    · unfold f_X8_isLeft f_X8_isLeft_b27
      rw [n0, h.1.2.2.2.1, allOf_eq, Option.bind_some, e2, hin, Option.bind_some, decide_eq_true hok, if_neg bfT, refuseB, Option.bind_some, if_pos bfF, n4, h.1.2.2.2.2, hf, Option.bind_some]
      cases fitB r m n
      · exact if_pos bfF
      · exact if_neg bfT
  · refine ⟨1, vo, 0, ?_, ?_, fun z => absurd z (by decide)⟩
    · unfold f_W_isLeft f_X7_isLeft f_X7_isLeft_b15
      by_cases hneg : p1 < 0
      · rw [if_pos hneg]
        rfl
      · have h0 : (0 : Int32) ≤ p1 := (nn_iff _).mp hneg
        obtain ⟨n, hn, rfl⟩ := i3_of h0
        rw [if_neg hneg, e1, Option.bind_some, if_neg (fun z => hok ⟨h0, (i3_le hn (by omega)).mpr (by
          have := (i3_lt hn (by omega)).mp z
          omega)⟩)]
        rfl
    · unfold f_X8_isLeft f_X8_isLeft_b27
      rw [n0, h.1.2.2.2.1, allOf_eq, Option.bind_some, e2, hin, Option.bind_some, decide_eq_false hok, if_pos bfF, refuseB, Option.bind_some, if_neg bfT]
      rfl
theorem m1_toInt : (i3 0 - (1 : Int32)) = -1 := by decide
theorem weighing_eq {tb : TBv} {su r : Fn} (h : TabX tb su r) (u : MOv) (vo : FnL) (p1 p2 : Int32) : ∃ k w b, f_W_weighing tb vo p1 p2 = some (k, w) ∧ f_X8_weighing u r p1 p2 = some (b, mK u k) ∧ (k = 0 → w 0 = b.toInt64) := by
  obtain ⟨c, m, h⟩ := h
  have hc : c < 13 := by have := h.1.1.2; omega
  have hm : m ≤ 20 := h.1.2.1
  have n4 : (4 : Int32).toNatClampNeg = 4 := by decide
  have f7 := h.2.1.2.2.2.2.2.2
  have r4 := h.1.2.2.2.2
  have hin : f_X8_in p1.toInt64 (0 : Int64) (i3 m - (1 : Int32)).toInt64 = _ := in32 p1 0 (i3 m - (1 : Int32))
  have hin2 : f_X8_in p2.toInt64 (0 : Int64) (5 : Int64) = _ := in32 p2 0 5
  have hiff : ((0 : Int32) ≤ p1 ∧ p1 ≤ i3 m - (1 : Int32)) ↔ ∃ i, i < m ∧ p1 = i3 i := by
    by_cases h0 : m = 0
    · subst h0
      constructor
      · rintro ⟨z1, z2⟩
        rw [m1_toInt] at z2
        rw [Int32.le_iff_toInt_le] at z1 z2
        have e1 : (-1 : Int32).toInt = -1 := by decide
        have e0 : (0 : Int32).toInt = 0 := by decide
        omega
      · rintro ⟨i, hi, -⟩
        omega
    · rw [show i3 m - (1 : Int32) = i3 (m - 1) from i3_sub (b := 1) (by omega)]
      constructor
      · intro z
        obtain ⟨i, hi, e⟩ := rng_of (show m - 1 < 2 ^ 31 by omega) z
        exact ⟨i, by omega, e⟩
      · rintro ⟨i, hi, rfl⟩
        exact rng_to (by omega) (by omega)
  have bad : ∀ k : Int32, ¬ k ≤ 0 → f_X8_weighing_b40 u r p1 p2 k = some ((0 : Int32), mK u k) := fun k hk => by
    unfold f_X8_weighing_b40
    rw [refuse_yes u hk, Option.bind_some, if_neg bfT]
  by_cases hok : ∃ i, i < m ∧ p1 = i3 i
  · have hok' := hiff.mpr hok
    obtain ⟨i, hi, rfl⟩ := hok
    have c1 : i3 i < i3 m := (i3_lt (by omega) (by omega)).mpr hi
    by_cases hok2 : (0 : Int32) ≤ p2 ∧ p2 ≤ (5 : Int32)
    · obtain ⟨j, hj, rfl⟩ := rng_of (n := 5) (by decide) hok2
      have c6 : i3 j < (6 : Int32) := (i3_lt (b := 6) (by omega) (by decide)).mpr (by omega)
      have C1 : f_X7_weighing tb (i3 i) (i3 j) = some (.inl (rec tb (6 * i + j))) := by
        unfold f_X7_weighing
        rw [if_neg (i3_nn (by omega)), f7, if_pos c1, if_neg (i3_nn (by omega)), if_pos c6, kept_rd (by omega) (by omega), Option.bind_some]
      have R1 : f_X8_weighing_b40 u r (i3 i) (i3 j) 0 = some (rec tb (6 * i + j), mK u 0) := by
        unfold f_X8_weighing_b40
        rw [refuse_no u, Option.bind_some, if_pos bfF]
        by_cases h5 : j = 5
        · subst h5
          rw [if_pos (show i3 5 = (5 : Int32) from rfl), show i3 i + (1 : Int32) = i3 (i + 1) from i3_add i 1, many_PR (fun q hq => h.rows q (by omega)) (by omega) h.1.2.2.2.1 hc, Option.bind_some, h.2.2.1.2 i hi]
          rfl
        · have e5 : ¬ i3 j = (5 : Int32) := fun z => h5 ((i3_eq (b := 5) (by omega) (by decide)).mp z)
          rw [if_neg e5, at_eq, Option.bind_some, i3_add, if_neg (i3_in (by omega) (by decide)), i3_nat (by omega)]
          obtain ⟨x1, x2, x3, x4, x5⟩ := h.2.2.1.1 i hi
          have hj5 : j = 0 ∨ j = 1 ∨ j = 2 ∨ j = 3 ∨ j = 4 := by omega
          rcases hj5 with rfl | rfl | rfl | rfl | rfl
          · rw [show 6 * i + 0 = 6 * i from rfl, x1]
            rfl
          · rw [x2, show 7 + 5 * i + 1 = 8 + 5 * i by omega]
          · rw [x3, show 7 + 5 * i + 2 = 9 + 5 * i by omega]
          · rw [x4, show 7 + 5 * i + 3 = 10 + 5 * i by omega]
          · rw [x5, show 7 + 5 * i + 4 = 11 + 5 * i by omega]
      refine ⟨0, _, rec tb (6 * i + j), ?_, ?_, fun _ => vo_0 vo _⟩
      · unfold f_W_weighing
        rw [C1]
        rfl
      · unfold f_X8_weighing
        rw [n4, r4, hin, Option.bind_some, decide_eq_true hok', if_neg bfT, hin2, Option.bind_some, decide_eq_true hok2, if_neg bfT]
        exact R1
    · refine ⟨2, vo, 0, ?_, ?_, fun z => absurd z (by decide)⟩
      · unfold f_W_weighing f_X7_weighing f_X7_weighing_b35
        rw [if_neg (i3_nn (by omega)), f7, if_pos c1]
        by_cases hneg : p2 < 0
        · rw [if_pos hneg]
          rfl
        · have h0 : (0 : Int32) ≤ p2 := (nn_iff _).mp hneg
          obtain ⟨n, hn, rfl⟩ := i3_of h0
          rw [if_neg hneg, if_neg (fun z => hok2 ⟨h0, (i3_le (b := 5) hn (by decide)).mpr (by
            have := (i3_lt (b := 6) hn (by decide)).mp z
            omega)⟩)]
          rfl
      · unfold f_X8_weighing
        rw [n4, r4, hin, Option.bind_some, decide_eq_true hok', if_neg bfT, hin2, Option.bind_some, decide_eq_false hok2, if_pos bfF]
        exact bad 2 (by decide)
  · refine ⟨1, vo, 0, ?_, ?_, fun z => absurd z (by decide)⟩
    · unfold f_W_weighing f_X7_weighing f_X7_weighing_b15
      by_cases hneg : p1 < 0
      · rw [if_pos hneg]
        rfl
      · have h0 : (0 : Int32) ≤ p1 := (nn_iff _).mp hneg
        obtain ⟨n, hn, rfl⟩ := i3_of h0
        rw [if_neg hneg, f7, if_neg (fun z => hok ⟨n, (i3_lt hn (by omega)).mp z, rfl⟩)]
        rfl
    · unfold f_X8_weighing
      rw [n4, r4, hin, Option.bind_some, decide_eq_false (fun z => hok (hiff.mp z)), if_pos bfF]
      exact bad 1 (by decide)
