/-! ===== copies ===== -/
theorem TabR.ext {c m : Nat} {tb : TBv} {su r r' : Fn} (h : TabR c m tb su r) (e : ∀ j, j < 107 → r' j = r j) : TabR c m tb su r' := by
  obtain ⟨⟨a1, a2, ⟨hh, a3, a3', aF⟩, a4, a5⟩, ⟨f1, f2, f3, f4, f5, f6, f7⟩, ⟨c1, c2⟩, d, w⟩ := h
  have hcong : ∀ n, n ≤ m → PR r' c n = PR r c n := fun n hn => PR_cong (fun i hi j hj => e _ (by omega))
  refine ⟨⟨a1, a2, ⟨hh, a3, (e 1 (by decide)).trans a3', (fitB_cong (fun i hi j hj => e _ (by omega))).trans aF⟩, (e 0 (by decide)).trans a4, (e 4 (by decide)).trans a5⟩, ⟨f1, f2.trans (e 1 (by decide)).symm, f3.trans (e 2 (by decide)).symm, f4.trans (e 3 (by decide)).symm, f5.trans (e 5 (by decide)).symm, f6.trans (e 6 (by decide)).symm, f7⟩, ⟨fun i hi => ?_, fun i hi => ?_⟩, by rw [hcong m (Nat.le_refl m)]; exact d, fun i hi => ?_⟩
  · obtain ⟨x1, x2, x3, x4, x5⟩ := c1 i hi
    unfold R5
    rw [e _ (by omega), e _ (by omega), e _ (by omega), e _ (by omega), e _ (by omega)]
    exact ⟨x1, x2, x3, x4, x5⟩
  · rw [hcong _ (by omega)]; exact c2 i hi
  · rw [e _ (by omega), e _ (by omega)]; exact w i hi
theorem copyT_step {v1 u0 : Fn} {w0 tb : TBv} {i : Nat} (hi : i < 120) : f_X4_copyFrom_B58 v1 w0 u0 (i3 i, tb) = some (.inl (i3 (i + 1), (tb.1, tb.2.1, tb.2.2.1, tb.2.2.2.1, tb.2.2.2.2.1, tb.2.2.2.2.2.1, tb.2.2.2.2.2.2.1, upd (rec tb) i (rec w0 i)))) := by
  have hn : ¬ (120 : Int32) ≤ i3 i := by show ¬ i3 120 ≤ i3 i; rw [i3_le (by decide) (by omega)]; omega
  unfold f_X4_copyFrom_B58
  rw [if_neg hn, if_neg hn, if_neg (i3_in hi (by decide)), if_neg (i3_in hi (by decide)), i3_nat (by omega)]
  exact congrArg (fun z => some (Sum.inl (z, _))) (i3_add i 1)
theorem copyT_end {v1 u0 : Fn} {w0 tb : TBv} : f_X4_copyFrom_B58 v1 w0 u0 (i3 120, tb) = some (.inr tb) := by
  unfold f_X4_copyFrom_B58
  exact if_pos (by decide : (120 : Int32) ≤ i3 120)
theorem copyT_run (v0 : TBv) (v1 : Fn) (w0 : TBv) (u0 : Fn) : f_X4_copyFrom v0 v1 w0 u0 = some ((w0.1, w0.2.1, w0.2.2.1, w0.2.2.2.1, w0.2.2.2.2.1, w0.2.2.2.2.2.1, w0.2.2.2.2.2.2.1, fun j => if j < 120 then rec w0 j else rec v0 j), fun j => if j < 6 then u0 j else v1 j) := by
  unfold f_X4_copyFrom f_X4_copyFrom_b94
  have hl := itl_for (f := f_X4_copyFrom_B58 v1 w0 u0) (fun i => (i3 i, ((w0.1, w0.2.1, w0.2.2.1, w0.2.2.2.1, w0.2.2.2.2.1, w0.2.2.2.2.2.1, w0.2.2.2.2.2.2.1, fun j => if j < i then rec w0 j else rec v0 j) : TBv))) 120 (e := ((w0.1, w0.2.1, w0.2.2.1, w0.2.2.2.1, w0.2.2.2.2.1, w0.2.2.2.2.2.1, w0.2.2.2.2.2.2.1, fun j => if j < 120 then rec w0 j else rec v0 j) : TBv)) (by decide) (fun i hi => by
    rw [copyT_step hi]
    exact congrArg (fun z => some (Sum.inl (i3 (i + 1), (w0.1, w0.2.1, w0.2.2.1, w0.2.2.2.1, w0.2.2.2.2.1, w0.2.2.2.2.2.1, w0.2.2.2.2.2.2.1, z)))) (upd_if (rec w0) (rec v0) i)) copyT_end
  rw [if0] at hl
  have hl' : itl (f_X4_copyFrom_B58 v1 w0 u0) FU ((0 : Int32), (w0.1, w0.2.1, w0.2.2.1, w0.2.2.2.1, w0.2.2.2.2.1, w0.2.2.2.2.2.1, w0.2.2.2.2.2.2.1, v0.2.2.2.2.2.2.2)) = _ := hl
  rw [hl', Option.bind_some, copyS_eq, Option.bind_some]
theorem copyT_eq {c m : Nat} {w0 : TBv} {u0 r : Fn} (h : TabR c m w0 u0 r) (v0 : TBv) (v1 : Fn) : ∃ tb' su', f_X4_copyFrom v0 v1 w0 u0 = some (tb', su') ∧ TabR c m tb' su' r := by
  refine ⟨_, _, copyT_run v0 v1 w0 u0, ?_⟩
  obtain ⟨⟨a1, a2, ⟨hh, a3, a3', aF⟩, a4, a5⟩, ⟨f1, f2, f3, f4, f5, f6, f7⟩, ⟨c1, c2⟩, d, w⟩ := h
  have hr : ∀ j, j < 120 → (fun j => if j < 120 then rec w0 j else rec v0 j) j = rec w0 j := fun j hj => if_pos hj
  refine ⟨⟨a1, a2, ⟨hh, a3, a3', aF⟩, a4, a5⟩, ⟨f1, f2, f3, f4, f5, f6, f7⟩, ⟨fun i hi => ?_, fun i hi => ?_⟩, d.copy, w⟩
  · obtain ⟨x1, x2, x3, x4, x5⟩ := c1 i hi
    exact ⟨(hr _ (by omega)).trans x1, (hr _ (by omega)).trans x2, (hr _ (by omega)).trans x3, (hr _ (by omega)).trans x4, (hr _ (by omega)).trans x5⟩
  · exact (hr _ (by omega)).trans (c2 i hi)
/-- a row copied -/
def cpR (w0 w1 : Fn) (p q n : Nat) : Fn := fun j => if q ≤ j ∧ j < q + n then w0 (p + (j - q)) else w1 j
theorem cpR_step (w0 w1 : Fn) (p q n : Nat) : upd (cpR w0 w1 p q n) (q + n) (w0 (p + n)) = cpR w0 w1 p q (n + 1) := by
  funext j
  unfold upd cpR
  by_cases h : j = q + n
  · subst h
    rw [if_pos rfl, if_pos (by omega), show q + n - q = n by omega]
  · rw [if_neg h]
    by_cases h2 : q ≤ j ∧ j < q + n
    · rw [if_pos h2, if_pos (by omega)]
    · rw [if_neg h2, if_neg (by omega)]
theorem cpR_0 (w0 w1 : Fn) (p q : Nat) : cpR w0 w1 p q 0 = w1 := by
  funext j
  unfold cpR
  exact if_neg (by omega)
theorem copyR_step {n0 n1 : Nat} {w0 w : Fn} {p q i : Nat} (h0 : p + 107 ≤ n0) (h1 : q + 107 ≤ n1) (hn0 : n0 < 10000) (hn1 : n1 < 10000) (hi : i < 107) : f_X8_copyState_B3 n0 n1 w0 (i3 p) (i3 q) (i3 i, w) = some (.inl (i3 (i + 1), upd w (q + i) (w0 (p + i)))) := by
  unfold f_X8_copyState_B3
  rw [if_neg (by show ¬ i3 107 ≤ i3 i; rw [i3_le (by decide) (by omega)]; omega)]
  show (if i3 p + i3 i < 0 ∨ n0 ≤ (i3 p + i3 i).toNatClampNeg then none else if i3 q + i3 i < 0 ∨ n1 ≤ (i3 q + i3 i).toNatClampNeg then none else some (Sum.inl (i3 i + i3 1, upd w (i3 q + i3 i).toNatClampNeg (w0 (i3 p + i3 i).toNatClampNeg))) : Option ((Int32 × Fn) ⊕ Fn)) = _
  rw [i3_add, i3_add, i3_add, if_neg (i3_in (by omega) (by omega)), if_neg (i3_in (by omega) (by omega)), i3_nat (by omega), i3_nat (by omega)]
theorem copyR_eq {n0 n1 : Nat} {w0 w1 : Fn} {p q : Nat} (h0 : p + 107 ≤ n0) (h1 : q + 107 ≤ n1) (hn0 : n0 < 10000) (hn1 : n1 < 10000) : f_X8_copyState n0 n1 w0 w1 (i3 p) (i3 q) = some (cpR w0 w1 p q 107) := by
  unfold f_X8_copyState
  have hl := itl_for (f := f_X8_copyState_B3 n0 n1 w0 (i3 p) (i3 q)) (fun i => (i3 i, cpR w0 w1 p q i)) 107 (e := cpR w0 w1 p q 107) (by decide) (fun i hi => by
    rw [copyR_step h0 h1 hn0 hn1 hi, cpR_step]) (by
    unfold f_X8_copyState_B3
    exact if_pos (by decide : (107 : Int32) ≤ i3 107))
  rw [cpR_0] at hl
  have hl' : itl (f_X8_copyState_B3 n0 n1 w0 (i3 p) (i3 q)) FU ((0 : Int32), w1) = _ := hl
  rw [hl']
  rfl
