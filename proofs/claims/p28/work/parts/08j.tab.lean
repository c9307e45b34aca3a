/-! ===== a table of the class and a row of the reference ===== -/
abbrev rec (tb : TBv) : Fn := tb.2.2.2.2.2.2.2
def R5 (t r : Fn) (i : Nat) : Prop := t (6 * i) = r (7 + 5 * i) ∧ t (6 * i + 1) = r (8 + 5 * i) ∧ t (6 * i + 2) = r (9 + 5 * i) ∧ t (6 * i + 3) = r (10 + 5 * i) ∧ t (6 * i + 4) = r (11 + 5 * i)
def nP (P : Nat → Bool) : Nat := sm (fun k => (P k).toNat) 78
def TabF (c m : Nat) (tb : TBv) (r : Fn) : Prop := tb.1 = i3 c ∧ tb.2.1 = r 1 ∧ tb.2.2.1 = r 2 ∧ tb.2.2.2.1 = r 3 ∧ tb.2.2.2.2.1 = r 5 ∧ tb.2.2.2.2.2.1 = r 6 ∧ tb.2.2.2.2.2.2.1 = i3 m
def TabR (c m : Nat) (tb : TBv) (su r : Fn) : Prop :=
  ((3 ≤ c ∧ c ≤ 12) ∧ m ≤ 20 ∧ (∃ h, h < nC c ∧ r 1 = i3 h ∧ fitB r m h = true) ∧ r 0 = i3 c ∧ r 4 = i3 m) ∧ TabF c m tb r ∧ ((∀ i, i < m → R5 (rec tb) r i) ∧ (∀ i, i < m → rec tb (6 * i + 5) = i3 (nP (PR r c (i + 1))))) ∧ SuP su (PR r c m) ∧ ∀ i, i < m → WS c (r (7 + 5 * i)) (r (8 + 5 * i))
theorem TabR.rows {c m : Nat} {tb : TBv} {su r : Fn} (h : TabR c m tb su r) : RowS r m := fun i hi => by
  have hc : c < 13 := by have := h.1.1.2; omega
  exact ⟨(h.2.2.2.2 i hi).1.b12 hc, (h.2.2.2.2 i hi).2.1.b12 hc⟩
theorem fitB_cong {r r' : Fn} {m k : Nat} (h : ∀ i, i < m → ∀ j, j < 5 → r' (7 + j + 5 * i) = r (7 + j + 5 * i)) : fitB r' m k = fitB r m k := by
  unfold fitB
  rw [Bool.eq_iff_iff, allB_iff, allB_iff]
  have e : ∀ i, i < m → r' (7 + 5 * i) = r (7 + 5 * i) ∧ r' (8 + 5 * i) = r (8 + 5 * i) ∧ r' (9 + 5 * i) = r (9 + 5 * i) ∧ r' (10 + 5 * i) = r (10 + 5 * i) ∧ r' (11 + 5 * i) = r (11 + 5 * i) := fun i hi => ⟨h i hi 0 (by decide), h i hi 1 (by decide), h i hi 2 (by decide), h i hi 3 (by decide), h i hi 4 (by decide)⟩
  constructor
  · intro h2 i hi
    obtain ⟨e1, e2, e3, e4, e5⟩ := e i hi
    have := h2 i hi
    rw [e1, e2, e3, e4, e5] at this
    exact this
  · intro h2 i hi
    obtain ⟨e1, e2, e3, e4, e5⟩ := e i hi
    rw [e1, e2, e3, e4, e5]
    exact h2 i hi
theorem PR_cong {r r' : Fn} {c m : Nat} (h : ∀ i, i < m → ∀ j, j < 5 → r' (7 + j + 5 * i) = r (7 + j + 5 * i)) : PR r' c m = PR r c m := by
  funext k
  unfold PR
  rw [fitB_cong h]
/-- the same weighings, other small things -/
theorem TabR.to {c m : Nat} {tb tb' : TBv} {su r r' : Fn} (h : TabR c m tb su r) (hr : rec tb' = rec tb) (h7 : ∀ j, 7 ≤ j → r' j = r j) (h0 : r' 0 = r 0) (h1 : r' 1 = r 1) (h4 : r' 4 = r 4) (hF : TabF c m tb' r') : TabR c m tb' su r' := by
  obtain ⟨⟨a1, a2, ⟨hh, a3, a3', aF⟩, a4, a5⟩, b, ⟨c1, c2⟩, d, e⟩ := h
  have hcong : ∀ n, PR r' c n = PR r c n := fun n => PR_cong (fun i _ j _ => h7 _ (by omega))
  refine ⟨⟨a1, a2, ⟨hh, a3, h1.trans a3', (fitB_cong (fun i _ j _ => h7 _ (by omega))).trans aF⟩, h0.trans a4, h4.trans a5⟩, hF, ⟨fun i hi => ?_, fun i hi => ?_⟩, by rw [hcong]; exact d, fun i hi => ?_⟩
  · obtain ⟨x1, x2, x3, x4, x5⟩ := c1 i hi
    unfold R5
    rw [hr, h7 _ (by omega), h7 _ (by omega), h7 _ (by omega), h7 _ (by omega), h7 _ (by omega)]
    exact ⟨x1, x2, x3, x4, x5⟩
  · rw [hr, hcong]; exact c2 i hi
  · rw [h7 _ (by omega), h7 _ (by omega)]; exact e i hi
theorem PR_0 (r : Fn) (c : Nat) : PR r c 0 = fun k => decide (k < nC c) := by
  funext k
  unfold PR fitB allB
  exact Bool.and_true _
theorem layOut_eq {c m c' h' : Nat} {tb : TBv} {su r : Fn} (h : TabR c m tb su r) (hc : 3 ≤ c' ∧ c' ≤ 12) (hh : h' < nC c') : ∃ tb' su' r', f_X4_layOut tb su (i3 c') (i3 h') = some (tb', su') ∧ f_X8_hideOn r (i3 c') (i3 h') = some (i3 (nC c'), r') ∧ TabR c' 0 tb' su' r' ∧ tb'.1 = i3 c' := by
  obtain ⟨su', e1, e2⟩ := suspectAll_eq su (c := c') (by omega)
  refine ⟨(i3 c', i3 h', tb.2.2.1, tb.2.2.2.1, tb.2.2.2.2.1, tb.2.2.2.2.2.1, (0 : Int32), tb.2.2.2.2.2.2.2), su', upd (upd (upd r (0 : Int32).toNatClampNeg (i3 c')) (1 : Int32).toNatClampNeg (i3 h')) (4 : Int32).toNatClampNeg (0 : Int32), ?_, ?_, ?_, ?_⟩
  · unfold f_X4_layOut
    rw [e1]
    rfl
  · unfold f_X8_hideOn
    rw [allOf_eq]
    rfl
  · obtain ⟨-, ⟨f1, f2, f3, f4, f5, f6, f7⟩, -⟩ := h
    refine ⟨⟨hc, by omega, ⟨h', hh, rfl, rfl⟩, rfl, rfl⟩, ⟨rfl, rfl, f3, f4, f5, f6, rfl⟩, ⟨fun i hi => absurd hi (Nat.not_lt_zero i), fun i hi => absurd hi (Nat.not_lt_zero i)⟩, ?_, fun i hi => absurd hi (Nat.not_lt_zero i)⟩
    rw [PR_0]
    exact e2
  · rfl
theorem isArm_eq (x : Int32) : f_X7_isArm x = some (decide ((1 : Int32) ≤ x ∧ x ≤ (20 : Int32))) := by
  unfold f_X7_isArm
  by_cases h1 : x < (1 : Int32)
  · rw [if_pos h1, decide_eq_false]
    rintro ⟨h2, -⟩
    exact (lt_iff x 1).mpr h2 h1
  · rw [if_neg h1]
    by_cases h2 : (20 : Int32) < x
    · rw [if_pos h2, decide_eq_false]
      rintro ⟨-, h3⟩
      exact (lt_iff 20 x).mpr h3 h2
    · rw [if_neg h2, decide_eq_true]
      exact ⟨(lt_iff x 1).mp h1, (lt_iff 20 x).mp h2⟩
abbrev okA (x : Int32) : Prop := (1 : Int32) ≤ x ∧ x ≤ (20 : Int32)
theorem isArms_eq (x y : Int32) : ∃ d : Bool, f_X8_isArms x y = some d ∧ (d = true ↔ okA x ∧ okA y) := by
  unfold f_X8_isArms
  have h1 : f_X8_in x.toInt64 (1 : Int64) (20 : Int64) = _ := in32 x 1 20
  have h2 : f_X8_in y.toInt64 (1 : Int64) (20 : Int64) = _ := in32 y 1 20
  rw [h1, h2, Option.bind_some]
  by_cases a1 : okA x
  · rw [if_neg (by rw [decide_eq_true a1]; decide), Option.bind_some]
    by_cases a2 : okA y
    · rw [if_neg (by rw [decide_eq_true a2]; decide)]
      exact ⟨true, rfl, fun _ => ⟨a1, a2⟩, fun _ => rfl⟩
    · rw [if_pos (by rw [decide_eq_false a2]; decide)]
      exact ⟨false, rfl, (fun h => nomatch h), fun h => absurd h.2 a2⟩
  · rw [if_pos (by rw [decide_eq_false a1]; decide)]
    exact ⟨false, rfl, (fun h => nomatch h), fun h => absurd h.1 a1⟩
theorem tryArms_no {tb : TBv} {x y : Int32} (h : ¬ (okA x ∧ okA y)) : f_X4_tryArms tb x y = some (false, tb) := by
  unfold f_X4_tryArms
  rw [isArm_eq, isArm_eq, Option.bind_some]
  by_cases a1 : okA x
  · have a2 : ¬ okA y := fun z => h ⟨a1, z⟩
    rw [if_neg (by rw [decide_eq_true a1]; decide), Option.bind_some, if_pos (by rw [decide_eq_false a2]; decide)]
  · rw [if_pos (by rw [decide_eq_false a1]; decide)]
theorem tryArms_yes {c m : Nat} {tb : TBv} {su r : Fn} {x y : Int32} (h : TabR c m tb su r) (hx : okA x ∧ okA y) : ∃ tb' r', f_X4_tryArms tb x y = some (true, tb') ∧ f_X8_armsOn r x y = some (if x = y then (1 : Int32) else 0, r') ∧ TabR c m tb' su r' := by
  have hF := h.2.1
  obtain ⟨f1, f2, f3, f4, f5, f6, f7⟩ := hF
  refine ⟨(tb.1, tb.2.1, x, y, tb.2.2.2.2.1, tb.2.2.2.2.2.1, tb.2.2.2.2.2.2.1, tb.2.2.2.2.2.2.2), upd (upd r (2 : Int32).toNatClampNeg x) (3 : Int32).toNatClampNeg y, ?_, ?_, ?_⟩
  · unfold f_X4_tryArms
    rw [isArm_eq, isArm_eq, Option.bind_some, if_neg (by rw [decide_eq_true hx.1]; decide), Option.bind_some, if_neg (by rw [decide_eq_true hx.2]; decide)]
  · unfold f_X8_armsOn
    by_cases e : x = y
    · rw [if_pos e, if_pos e]
    · rw [if_neg e, if_neg e]
  · refine h.to rfl (fun j hj => ?_) rfl rfl rfl ⟨f1, f2, rfl, rfl, f5, f6, f7⟩
    have n2 : (2 : Int32).toNatClampNeg = 2 := by decide
    have n3 : (3 : Int32).toNatClampNeg = 3 := by decide
    rw [n2, n3]
    unfold upd
    rw [if_neg (by omega), if_neg (by omega)]
