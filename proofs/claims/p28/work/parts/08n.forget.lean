/-! ===== forgetting ===== -/
theorem fit_mono {r : Fn} {c m : Nat} : PR r c (m + 1) = fun k => PR r c m k && decide (oc (r (7 + 5 * m)) (r (8 + 5 * m)) (r (10 + 5 * m)) (r (11 + 5 * m)) k = r (9 + 5 * m)) := by
  funext k
  unfold PR fitB
  show (decide (k < nC c) && (allB _ m && _)) = _
  rw [Bool.and_assoc]
theorem forget_step {tb : TBv} {su : Fn} {sc : SCv} {c m i : Nat} {r : Fn} (hc : c < 13) (hm : tb.2.2.2.2.2.2.1 = i3 m) (hm20 : m ≤ 20) (hi : i < m) (hR : R5 (rec tb) r i) (hw : WS c (r (7 + 5 * i)) (r (8 + 5 * i))) (hs : SuP su (PR r c i)) : ∃ su' sc', f_X4_tryForgetting_B32 tb (i3 i, su, sc) = some (.inl (i3 (i + 1), su', sc')) ∧ SuP su' (PR r c (i + 1)) := by
  obtain ⟨x1, x2, x3, x4, x5⟩ := hR
  obtain ⟨su', k1, k2⟩ := keep_eq hs (r (7 + 5 * i)) (r (8 + 5 * i)) (r (10 + 5 * i)) (r (11 + 5 * i)) (r (9 + 5 * i)) hw.2.2.1
  refine ⟨su', scOf (r (7 + 5 * i)) (r (8 + 5 * i)) (r (10 + 5 * i)) (r (11 + 5 * i)), ?_, by rw [fit_mono]; exact k2⟩
  unfold f_X4_tryForgetting_B32
  rw [if_neg (by rw [hm]; show ¬ i3 m ≤ i3 i; rw [i3_le (by omega) (by omega)]; omega)]
  rw [show f_X4_kept tb (i3 i) (0 : Int32) = some (r (7 + 5 * i)) from (kept_rd (j := 0) (by omega) (by decide)).trans (congrArg some x1), Option.bind_some]
  rw [show f_X4_kept tb (i3 i) (1 : Int32) = some (r (8 + 5 * i)) from (kept_rd (j := 1) (by omega) (by decide)).trans (congrArg some x2), Option.bind_some]
  rw [show f_X4_kept tb (i3 i) (3 : Int32) = some (r (10 + 5 * i)) from (kept_rd (j := 3) (by omega) (by decide)).trans (congrArg some x4), Option.bind_some]
  rw [show f_X4_kept tb (i3 i) (4 : Int32) = some (r (11 + 5 * i)) from (kept_rd (j := 4) (by omega) (by decide)).trans (congrArg some x5), Option.bind_some]
  rw [set_eq _ _ (hw.1.sm hc) (hw.2.1.sm hc), Option.bind_some]
  rw [show f_X4_kept tb (i3 i) (2 : Int32) = some (r (9 + 5 * i)) from (kept_rd (j := 2) (by omega) (by decide)).trans (congrArg some x3), Option.bind_some]
  rw [k1, Option.bind_some]
  exact congrArg (fun z => some (Sum.inl (z, _))) (i3_add i 1)
theorem forget_loop {tb : TBv} {c m : Nat} {r : Fn} (hc : c < 13) (hm : tb.2.2.2.2.2.2.1 = i3 m) (hm20 : m ≤ 20) (hR : ∀ i, i < m → R5 (rec tb) r i) (hw : ∀ i, i < m → WS c (r (7 + 5 * i)) (r (8 + 5 * i))) : ∀ (d i : Nat), i + d = m → ∀ (N : Nat) (su : Fn) (sc : SCv), d < N → SuP su (PR r c i) → ∃ su' sc', itl (f_X4_tryForgetting_B32 tb) N (i3 i, su, sc) = some (su', sc') ∧ SuP su' (PR r c m) := by
  intro d
  induction d with
  | zero =>
    intro i hi N su sc hN hs
    have hi : i = m := by omega
    subst hi
    obtain ⟨N, rfl⟩ : ∃ N', N = N' + 1 := ⟨N - 1, by omega⟩
    refine ⟨su, sc, ?_, hs⟩
    show (f_X4_tryForgetting_B32 tb (i3 i, su, sc)).bind _ = _
    unfold f_X4_tryForgetting_B32
    rw [if_pos (by rw [hm]; show i3 i ≤ i3 i; rw [i3_le (by omega) (by omega)]; exact Nat.le_refl _)]
    rfl
  | succ d ih =>
    intro i hi N su sc hN hs
    obtain ⟨N, rfl⟩ : ∃ N', N = N' + 1 := ⟨N - 1, by omega⟩
    obtain ⟨su1, sc1, h1, h2⟩ := forget_step (sc := sc) hc hm hm20 (show i < m by omega) (hR i (by omega)) (hw i (by omega)) hs
    obtain ⟨su', sc', h3, h4⟩ := ih (i + 1) (by omega) N su1 sc1 (by omega) h2
    refine ⟨su', sc', ?_, h4⟩
    show (f_X4_tryForgetting_B32 tb (i3 i, su, sc)).bind _ = _
    rw [h1]
    exact h3
theorem tryForgetting_no {tb : TBv} {su : Fn} {sc : SCv} {c : Nat} {r : Fn} (h : TabR c 0 tb su r) : f_X4_tryForgetting tb su sc = some (false, tb, su, sc) := by
  unfold f_X4_tryForgetting
  rw [h.2.1.2.2.2.2.2.2]
  rfl
theorem tryForgetting_yes {tb : TBv} {su : Fn} {sc : SCv} {c m : Nat} {r : Fn} (h : TabR c (m + 1) tb su r) : ∃ tb' su' sc' r', f_X4_tryForgetting tb su sc = some (true, tb', su', sc') ∧ f_X8_forgetOn r = some (i3 m, r') ∧ TabR c m tb' su' r' ∧ tb'.2.2.2.2.2.2.1 = i3 m := by
  have hc : c < 13 := by have := h.1.1.2; omega
  obtain ⟨⟨a1, a2, ⟨hh, a3, a3', aF⟩, a4, a5⟩, ⟨f1, f2, f3, f4, f5, f6, f7⟩, ⟨c1, c2⟩, d, e⟩ := h
  have hm1 : i3 (m + 1) - (1 : Int32) = i3 m := i3_sub (a := m + 1) (b := 1) (by omega)
  obtain ⟨su0, s1, s2⟩ := suspectAll_eq su hc
  have n4 : (4 : Int32).toNatClampNeg = 4 := by decide
  obtain ⟨su', sc', h1, h2⟩ := forget_loop (tb := (tb.1, tb.2.1, tb.2.2.1, tb.2.2.2.1, tb.2.2.2.2.1, tb.2.2.2.2.2.1, i3 m, tb.2.2.2.2.2.2.2)) (r := r) hc rfl (by omega) (fun i hi => c1 i (by omega)) (fun i hi => e i (by omega)) m 0 (by omega) FU su0 sc (by unfold FU; omega) (by rw [PR_0]; exact s2)
  have hcong : ∀ n, n ≤ m → PR (upd r 4 (i3 m)) c n = PR r c n := fun n hn => PR_cong (fun i hi j hj => upd_ne (by omega))
  have hfit : fitB (upd r 4 (i3 m)) m hh = true := by
    rw [fitB_cong (r := r) (fun i hi j hj => upd_ne (by omega))]
    have e9 : (fitB r m hh && _) = true := aF
    exact (Bool.and_eq_true _ _ ▸ e9 : _ ∧ _).1
  refine ⟨(tb.1, tb.2.1, tb.2.2.1, tb.2.2.2.1, tb.2.2.2.2.1, tb.2.2.2.2.2.1, i3 m, tb.2.2.2.2.2.2.2), su', sc', upd r 4 (i3 m), ?_, ?_, ⟨⟨a1, by omega, ⟨hh, a3, a3', hfit⟩, a4, rfl⟩, ⟨f1, f2, f3, f4, f5, f6, rfl⟩, ⟨fun i hi => ?_, fun i hi => ?_⟩, ?_, fun i hi => ?_⟩, rfl⟩
  · unfold f_X4_tryForgetting
    rw [f7, hm1, f1, if_pos (by show i3 0 < i3 (m + 1); rw [i3_lt (by decide) (by omega)]; omega), s1, Option.bind_some]
    rw [f1] at h1
    have h1' : itl (f_X4_tryForgetting_B32 (i3 c, tb.2.1, tb.2.2.1, tb.2.2.2.1, tb.2.2.2.2.1, tb.2.2.2.2.2.1, i3 m, tb.2.2.2.2.2.2.2)) FU ((0 : Int32), su0, sc) = _ := h1
    rw [h1']
    rfl
  · unfold f_X8_forgetOn
    rw [n4, a5, hm1, upd_at]
  · obtain ⟨x1, x2, x3, x4, x5⟩ := c1 i (by omega)
    unfold R5
    rw [upd_ne (by omega), upd_ne (by omega), upd_ne (by omega), upd_ne (by omega), upd_ne (by omega)]
    exact ⟨x1, x2, x3, x4, x5⟩
  · rw [hcong _ (by omega)]
    exact c2 i (by omega)
  · rw [hcong _ (Nat.le_refl m)]
    exact h2
  · rw [upd_ne (by omega), upd_ne (by omega)]
    exact e i (by omega)
