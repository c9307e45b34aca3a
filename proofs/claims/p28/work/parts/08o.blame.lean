/-! ===== blaming ===== -/
theorem note_eq {tb : TBv} {su : Fn} {c m : Nat} {r : Fn} (h : TabR c m tb su r) (d : Bool) : ∃ tb' r', f_X4_noteBlame tb d = some (d, tb') ∧ f_X8_told r d = some (b2i d, r') ∧ TabR c m tb' su r' := by
  have hF := h.2.1
  obtain ⟨f1, f2, f3, f4, f5, f6, f7⟩ := hF
  have n5 : (5 : Int32).toNatClampNeg = 5 := by decide
  have n6' : (6 : Int32).toNatClampNeg = 6 := by decide
  cases d
  · refine ⟨(tb.1, tb.2.1, tb.2.2.1, tb.2.2.2.1, tb.2.2.2.2.1, tb.2.2.2.2.2.1 + (1 : Int32), tb.2.2.2.2.2.2.1, tb.2.2.2.2.2.2.2), upd r 6 (r 6 + (1 : Int32)), ?_, ?_, ?_⟩
    · unfold f_X4_noteBlame
      exact if_pos (by decide)
    · unfold f_X8_told f_X8_told_b11
      rw [if_pos (by decide), if_neg (by decide), if_neg (by decide), if_pos (by decide), n6']
      rfl
    · refine h.to rfl (fun j hj => upd_ne (by omega)) rfl rfl rfl ⟨f1, f2, f3, f4, f5, ?_, f7⟩
      show tb.2.2.2.2.2.1 + (1 : Int32) = upd r 6 _ 6
      rw [upd_at, f6]
  · refine ⟨(tb.1, tb.2.1, tb.2.2.1, tb.2.2.2.1, tb.2.2.2.2.1 + (1 : Int32), tb.2.2.2.2.2.1, tb.2.2.2.2.2.2.1, tb.2.2.2.2.2.2.2), upd r 5 (r 5 + (1 : Int32)), ?_, ?_, ?_⟩
    · unfold f_X4_noteBlame
      exact if_neg (by decide)
    · unfold f_X8_told f_X8_told_b11
      rw [if_neg (by decide), if_neg (by decide), if_neg (by decide), if_neg (by decide), n5]
      rfl
    · refine h.to rfl (fun j hj => upd_ne (by omega)) rfl rfl rfl ⟨f1, f2, f3, f4, ?_, f6, f7⟩
      show tb.2.2.2.2.1 + (1 : Int32) = upd r 5 _ 5
      rw [upd_at, f5]
theorem blameCoin_eq {tb : TBv} {su : Fn} {c m : Nat} {r : Fn} (h : TabR c m tb su r) (x : Int32) (y : Bool) : ∃ d tb' r', f_X4_blameCoin tb x y = some (d, tb') ∧ f_X8_accuseOn r x y = some (b2i d, r') ∧ TabR c m tb' su r' := by
  have f2 := h.2.1.2.1
  have n1 : (1 : Int32).toNatClampNeg = 1 := by decide
  have key : ∀ z : Bool, ∃ d tb' r', f_X4_blameCoin_b19 tb z ((2 : Int32) * x) (tb.2.1 / (3 : Int32)) = some (d, tb') ∧ f_X8_accuseOn_b18 r z ((2 : Int32) * x) (r 1 / (3 : Int32)) = some (b2i d, r') ∧ TabR c m tb' su r' := by
    intro z
    unfold f_X4_blameCoin_b19 f_X8_accuseOn_b18 f_X4_blameCoin_b28 f_X8_accuseOn_b27
    rw [f2]
    by_cases hq : r 1 / (3 : Int32) = (2 : Int32) * x + b2i z
    · rw [if_pos hq, if_pos hq]
      obtain ⟨tb', r', e1, e2, e3⟩ := note_eq h true
      exact ⟨true, tb', r', by rw [e1]; rfl, by rw [e2]; rfl, e3⟩
    · rw [if_neg hq, if_neg hq]
      obtain ⟨tb', r', e1, e2, e3⟩ := note_eq h false
      exact ⟨false, tb', r', by rw [e1]; rfl, by rw [e2]; rfl, e3⟩
  unfold f_X4_blameCoin f_X8_accuseOn
  rw [n1]
  cases y
  · rw [if_pos (by decide), if_pos (by decide)]; exact key false
  · rw [if_neg (by decide), if_neg (by decide)]; exact key true
theorem blamePan_eq {tb : TBv} {su : Fn} {c m : Nat} {r : Fn} (h : TabR c m tb su r) (x : Int32) : ∃ d tb' r', f_X4_blamePan tb x = some (d, tb') ∧ f_X8_told r (decide (r 1 - r 1 / (3 : Int32) * (3 : Int32) = x)) = some (b2i d, r') ∧ TabR c m tb' su r' := by
  have f2 := h.2.1.2.1
  obtain ⟨tb', r', e1, e2, e3⟩ := note_eq h (decide (r 1 - r 1 / (3 : Int32) * (3 : Int32) = x))
  refine ⟨_, tb', r', ?_, e2, e3⟩
  unfold f_X4_blamePan f_X4_blamePan_b16
  rw [f2]
  by_cases hq : r 1 - r 1 / (3 : Int32) * (3 : Int32) = x
  · rw [if_pos hq]
    rw [decide_eq_true hq] at e1 ⊢
    rw [e1]
    rfl
  · rw [if_neg hq]
    rw [decide_eq_false hq] at e1 ⊢
    rw [e1]
    rfl
