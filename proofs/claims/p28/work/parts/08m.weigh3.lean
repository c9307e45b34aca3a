/-! ===== weighing keeps the relation ===== -/
theorem SuP.cong {su : Fn} {P Q : Nat → Bool} (h : SuP su P) (e : ∀ k, k < 78 → P k = Q k) : SuP su Q := fun j hj => ⟨(h j hj).1, fun b hb => ((h j hj).2 b hb).trans (e _ (by unfold kOf; omega))⟩
theorem nP_cong {P Q : Nat → Bool} (e : ∀ k, k < 78 → P k = Q k) : nP P = nP Q := sm_cong (fun k hk => by rw [e k hk])
theorem wRow_old (r : Fn) (m : Nat) (a b o : Int32) {j : Nat} (h7 : j < 7 + 5 * m) (h4 : j ≠ 4) : wRow r m a b o j = r j := by
  unfold wRow
  rw [upd_ne h4, upd_ne (by omega), upd_ne (by omega), upd_ne (by omega), upd_ne (by omega), upd_ne (by omega)]
theorem wRow_7 (r : Fn) (m : Nat) (a b o : Int32) : wRow r m a b o (7 + 5 * m) = a := by
  unfold wRow
  rw [upd_ne (by omega), upd_ne (by omega), upd_ne (by omega), upd_ne (by omega), upd_ne (by omega), upd_at]
theorem wRow_8 (r : Fn) (m : Nat) (a b o : Int32) : wRow r m a b o (8 + 5 * m) = b := by
  unfold wRow
  rw [upd_ne (by omega), upd_ne (by omega), upd_ne (by omega), upd_ne (by omega), upd_at]
theorem wRow_9 (r : Fn) (m : Nat) (a b o : Int32) : wRow r m a b o (9 + 5 * m) = o := by
  unfold wRow
  rw [upd_ne (by omega), upd_ne (by omega), upd_ne (by omega), upd_at]
theorem wRow_10 (r : Fn) (m : Nat) (a b o : Int32) : wRow r m a b o (10 + 5 * m) = r 2 := by
  unfold wRow
  rw [upd_ne (by omega), upd_ne (by omega), upd_at]
theorem wRow_11 (r : Fn) (m : Nat) (a b o : Int32) : wRow r m a b o (11 + 5 * m) = r 3 := by
  unfold wRow
  rw [upd_ne (by omega), upd_at]
theorem wRow_PR (r : Fn) (c m : Nat) (a b o : Int32) {n : Nat} (hn : n ≤ m) : PR (wRow r m a b o) c n = PR r c n := PR_cong (fun i hi j hj => wRow_old r m a b o (by omega) (by omega))
theorem wRow_PR1 (r : Fn) (c m : Nat) (a b o : Int32) : PR (wRow r m a b o) c (m + 1) = fun k => PR r c m k && decide (oc a b (r 2) (r 3) k = o) := by
  funext k
  have h := congrFun (wRow_PR r c m a b o (Nat.le_refl m)) k
  have e : PR (wRow r m a b o) c (m + 1) k = (PR (wRow r m a b o) c m k && decide (oc (wRow r m a b o (7 + 5 * m)) (wRow r m a b o (8 + 5 * m)) (wRow r m a b o (10 + 5 * m)) (wRow r m a b o (11 + 5 * m)) k = wRow r m a b o (9 + 5 * m))) := by
    unfold PR fitB
    show (decide (k < nC c) && (allB _ m && _)) = _
    rw [Bool.and_assoc]
  rw [e, h, wRow_7, wRow_8, wRow_9, wRow_10, wRow_11]
theorem rcW_old (t : Fn) (m : Nat) (a b o la ra n : Int32) {j : Nat} (h : j < 6 * m) : rcW t m a b o la ra n j = t j := by
  unfold rcW
  rw [upd_ne (by omega), upd_ne (by omega), upd_ne (by omega), upd_ne (by omega), upd_ne (by omega), upd_ne (by omega)]
theorem rcW_new (t r : Fn) (m : Nat) (a b o n : Int32) : R5 (rcW t m a b o (r 2) (r 3) n) (wRow r m a b o) m ∧ rcW t m a b o (r 2) (r 3) n (6 * m + 5) = n := by
  unfold R5
  rw [wRow_7, wRow_8, wRow_9, wRow_10, wRow_11]
  unfold rcW
  refine ⟨⟨?_, ?_, ?_, ?_, ?_⟩, upd_at⟩
  · rw [upd_ne (by omega), upd_ne (by omega), upd_ne (by omega), upd_ne (by omega), upd_ne (by omega)]; exact upd_at
  · rw [upd_ne (by omega), upd_ne (by omega), upd_ne (by omega), upd_ne (by omega), upd_at]
  · rw [upd_ne (by omega), upd_ne (by omega), upd_ne (by omega), upd_at]
  · rw [upd_ne (by omega), upd_ne (by omega), upd_at]
  · rw [upd_ne (by omega), upd_at]
theorem tryWeighing_yes {tb : TBv} {su : Fn} {c m : Nat} {r : Fn} {a b : Int32} (h : TabR c m tb su r) (hw : WS c a b) (hm : m < 20) : ∃ tb' su' sc' r' o, (∀ sc, f_X4_tryWeighing tb su sc a b = some (true, tb', su', sc')) ∧ f_X8_weighOn r a b = some (o, r') ∧ TabR c (m + 1) tb' su' r' ∧ rec tb' (6 * m + 2) = o ∧ 0 ≤ o := by
  have hc : c < 13 := by have := h.1.1.2; omega
  obtain ⟨⟨a1, a2, ⟨hh, a3, a3', aF⟩, a4, a5⟩, ⟨f1, f2, f3, f4, f5, f6, f7⟩, ⟨c1, c2⟩, d, e⟩ := h
  have h75 := nC_lt hc
  obtain ⟨su', k1, k2⟩ := keep_eq d a b (r 2) (r 3) (oc a b (r 2) (r 3) hh) hw.2.2.1
  have hW := weighOn_eq a5 hm a3' (show hh < 78 by omega) (hw.1.b12 hc) (hw.2.1.b12 hc)
  have hoc := oc_le a b (r 2) (r 3) hh
  have hT : ∀ sc, _ := fun sc => tryWeighing_run (sc := sc) (k := hh) hc f1 (f2.trans a3') f7 (by omega) hm hw (by rw [f3, f4]; exact k1) k2
  rw [f3, f4] at hT
  generalize ho : oc a b (r 2) (r 3) hh = o at k1 k2 hW hT hoc
  have hPR1 := wRow_PR1 r c m a b o
  have hfit : fitB (wRow r m a b o) (m + 1) hh = true := by
    have e9 := congrFun hPR1 hh
    have e8 : (PR r c m hh && decide (oc a b (r 2) (r 3) hh = o)) = true := by
      unfold PR
      rw [decide_eq_true a3, aF, decide_eq_true ho]
      rfl
    rw [e8] at e9
    unfold PR at e9
    rw [decide_eq_true a3] at e9
    exact e9
  refine ⟨_, su', _, _, o, hT, hW, ⟨⟨a1, hm, ⟨hh, a3, ?_, hfit⟩, ?_, ?_⟩, ⟨f1, ?_, ?_, ?_, ?_, ?_, ?_⟩, ⟨fun i hi => ?_, fun i hi => ?_⟩, ?_, fun i hi => ?_⟩, ?_, ?_⟩
  · rw [wRow_old _ _ _ _ _ (by omega) (by decide)]; exact a3'
  · rw [wRow_old _ _ _ _ _ (by omega) (by decide)]; exact a4
  · exact i3_add m 1
  · rw [wRow_old _ _ _ _ _ (by omega) (by decide)]; exact f2
  · rw [wRow_old _ _ _ _ _ (by omega) (by decide)]
  · rw [wRow_old _ _ _ _ _ (by omega) (by decide)]
  · rw [wRow_old _ _ _ _ _ (by omega) (by decide)]; exact f5
  · rw [wRow_old _ _ _ _ _ (by omega) (by decide)]; exact f6
  · exact i3_add m 1
  · by_cases him : i = m
    · subst him
      exact (rcW_new _ r i a b o _).1
    · obtain ⟨x1, x2, x3, x4, x5⟩ := c1 i (by omega)
      show R5 (rcW (rec tb) m a b o (r 2) (r 3) _) (wRow r m a b o) i
      unfold R5
      rw [rcW_old _ _ _ _ _ _ _ _ (by omega), rcW_old _ _ _ _ _ _ _ _ (by omega), rcW_old _ _ _ _ _ _ _ _ (by omega), rcW_old _ _ _ _ _ _ _ _ (by omega), rcW_old _ _ _ _ _ _ _ _ (by omega)]
      rw [wRow_old _ _ _ _ _ (by omega) (by omega), wRow_old _ _ _ _ _ (by omega) (by omega), wRow_old _ _ _ _ _ (by omega) (by omega), wRow_old _ _ _ _ _ (by omega) (by omega), wRow_old _ _ _ _ _ (by omega) (by omega)]
      exact ⟨x1, x2, x3, x4, x5⟩
  · show rcW (rec tb) m a b o (r 2) (r 3) _ (6 * i + 5) = _
    by_cases him : i = m
    · subst him
      rw [hPR1]
      exact (rcW_new _ r i a b o _).2
    · rw [rcW_old _ _ _ _ _ _ _ _ (by omega), wRow_PR r c m a b o (by omega)]
      exact c2 i (by omega)
  · rw [hPR1]; exact k2
  · by_cases him : i = m
    · subst him
      rw [wRow_7, wRow_8]; exact hw
    · rw [wRow_old _ _ _ _ _ (by omega) (by omega), wRow_old _ _ _ _ _ (by omega) (by omega)]
      exact e i (by omega)
  · exact (rcW_new (rec tb) r m a b o _).1.2.2.1.trans (wRow_9 r m a b o)
  · rcases hoc with z | z | z <;> rw [z] <;> decide
