/-! ===== weighing: the class's table ===== -/
theorem write_eq {tb : TBv} {i j : Nat} (hi : i < 20) (hj : j < 6) (x : Int32) : f_X4_write tb (i3 i) (i3 j) x = some (tb.1, tb.2.1, tb.2.2.1, tb.2.2.2.1, tb.2.2.2.2.1, tb.2.2.2.2.2.1, tb.2.2.2.2.2.2.1, upd (rec tb) (6 * i + j) x) := by
  have e : (6 : Int32) * i3 i + i3 j = i3 (6 * i + j) := by
    rw [show (6 : Int32) * i3 i = i3 (6 * i) from i3_mul 6 i, i3_add]
  unfold f_X4_write
  rw [e, if_neg (i3_nn (by omega)), if_neg (by show ¬ i3 120 ≤ i3 (6 * i + j); rw [i3_le (by decide) (by omega)]; omega), if_neg (i3_in (by omega) (by decide)), i3_nat (by omega)]
theorem kept_rd {tb : TBv} {i j : Nat} (hi : i < 20) (hj : j < 6) : f_X4_kept tb (i3 i) (i3 j) = some (rec tb (6 * i + j)) := by
  have e : (6 : Int32) * i3 i + i3 j = i3 (6 * i + j) := by
    rw [show (6 : Int32) * i3 i = i3 (6 * i) from i3_mul 6 i, i3_add]
  unfold f_X4_kept
  rw [e, if_neg (i3_nn (by omega)), if_neg (by show ¬ i3 120 ≤ i3 (6 * i + j); rw [i3_le (by decide) (by omega)]; omega), if_neg (i3_in (by omega) (by decide)), i3_nat (by omega)]
def rcW (t : Fn) (m : Nat) (a b o la ra n : Int32) : Fn := upd (upd (upd (upd (upd (upd t (6 * m + 0) a) (6 * m + 1) b) (6 * m + 2) o) (6 * m + 3) la) (6 * m + 4) ra) (6 * m + 5) n
theorem tryWeighing_no {tb : TBv} {su : Fn} {sc : SCv} {c m : Nat} {r : Fn} {a b : Int32} (h : TabR c m tb su r) (hn : ¬ (WS c a b ∧ m < 20)) : f_X4_tryWeighing tb su sc a b = some (false, tb, su, sc) := by
  have hc : c < 13 := by have := h.1.1.2; omega
  obtain ⟨d, e1, e2⟩ := canWeigh_eq hc h.2.1.1 a b
  have hm : m ≤ 20 := h.1.2.1
  have h7 := h.2.1.2.2.2.2.2.2
  unfold f_X4_tryWeighing f_X4_isFull
  rw [e1, Option.bind_some]
  cases d
  · rw [if_pos (by decide)]
  · rw [if_neg (by decide), h7]
    have h20 : m = 20 := by
      have hx : ¬ m < 20 := fun z => hn ⟨e2.mp rfl, z⟩
      omega
    subst h20
    rfl
theorem full_eq {tb : TBv} {m : Nat} (h7 : tb.2.2.2.2.2.2.1 = i3 m) (hm : m ≤ 20) : f_X4_isFull tb = some (decide (m = 20)) := by
  unfold f_X4_isFull
  rw [h7]
  show (if i3 m < i3 20 then _ else _) = _
  by_cases h : m = 20
  · rw [if_neg (by rw [i3_lt (by omega) (by decide)]; omega), decide_eq_true h]
  · rw [if_pos (by rw [i3_lt (by omega) (by decide)]; omega), decide_eq_false h]
theorem tryWeighing_run {tb : TBv} {su su' : Fn} {sc : SCv} {c m k : Nat} {a b : Int32} {P : Nat → Bool} (hc : c < 13) (hF1 : tb.1 = i3 c) (hF2 : tb.2.1 = i3 k) (hF7 : tb.2.2.2.2.2.2.1 = i3 m) (hk : k < 78) (hm : m < 20) (hw : WS c a b) (hs : f_X3_keep su (scOf a b tb.2.2.1 tb.2.2.2.1) (oc a b tb.2.2.1 tb.2.2.2.1 k) = some su') (hP : SuP su' P) :
    f_X4_tryWeighing tb su sc a b = some (true, (tb.1, tb.2.1, tb.2.2.1, tb.2.2.2.1, tb.2.2.2.2.1, tb.2.2.2.2.2.1, i3 m + (1 : Int32), rcW (rec tb) m a b (oc a b tb.2.2.1 tb.2.2.2.1 k) tb.2.2.1 tb.2.2.2.1 (i3 (nP P))), su', scOf a b tb.2.2.1 tb.2.2.2.1) := by
  obtain ⟨d, e1, e2⟩ := canWeigh_eq hc hF1 a b
  have hd : d = true := e2.mpr hw
  subst hd
  unfold f_X4_tryWeighing
  rw [e1, Option.bind_some, if_neg (by decide), full_eq hF7 (by omega), Option.bind_some, decide_eq_false (by omega), if_pos (by decide)]
  rw [set_eq _ _ (hw.1.sm hc) (hw.2.1.sm hc), Option.bind_some, hF2, inCase_eq _ _ _ _ hk, Option.bind_some, hs, Option.bind_some, hF7]
  generalize oc a b tb.2.2.1 tb.2.2.2.1 k = o
  rw [show ∀ t : TBv, f_X4_write t (i3 m) (0 : Int32) a = _ from fun t => write_eq (j := 0) hm (by decide) a, Option.bind_some]
  rw [show ∀ t : TBv, f_X4_write t (i3 m) (1 : Int32) b = _ from fun t => write_eq (j := 1) hm (by decide) b, Option.bind_some]
  rw [show ∀ t : TBv, f_X4_write t (i3 m) (2 : Int32) o = _ from fun t => write_eq (j := 2) hm (by decide) o, Option.bind_some]
  rw [show ∀ (t : TBv) (x : Int32), f_X4_write t (i3 m) (3 : Int32) x = _ from fun t x => write_eq (j := 3) hm (by decide) x, Option.bind_some]
  rw [show ∀ (t : TBv) (x : Int32), f_X4_write t (i3 m) (4 : Int32) x = _ from fun t x => write_eq (j := 4) hm (by decide) x, Option.bind_some]
  rw [count_eq hP, Option.bind_some]
  rw [show ∀ (t : TBv) (x : Int32), f_X4_write t (i3 m) (5 : Int32) x = _ from fun t x => write_eq (j := 5) hm (by decide) x, Option.bind_some]
  rfl
