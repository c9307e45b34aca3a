/-! ===== actions, by both ===== -/
def uA (u' u : MOv) (k : Int32) : Prop := u'.1 = k ∧ u'.2.1 = u.2.1
theorem uA_K (u : MOv) (k : Int32) : uA (mK u k) u k := ⟨rfl, rfl⟩
theorem uA_A (u : MOv) (a : Int32) : uA (mA (mK u 0) a) u 0 := ⟨rfl, rfl⟩
theorem rem_mK {vh : HIv} {vr : HRv} {u : MOv} {d r : Fn} {tb : TBv} {su : Fn} (hH : HisR vh vr u.2.2.1 d) (h : TabX tb su r) : ∃ vh' vr' a' d', f_X0_remember vh vr tb su = some (vh', vr') ∧ f_X8_remember (mK u 0) r d = some (mA (mK u 0) a', d') ∧ HisR vh' vr' a' d' := remember_both (u := mK u 0) hH h
theorem hide_eq {vh : HIv} {vr : HRv} {u : MOv} {d r : Fn} {tb : TBv} {su : Fn} (hH : HisR vh vr u.2.2.1 d) (h : TabX tb su r) (vo : FnL) (p1 p2 : Int32) : ∃ k tb' su' vh' vr' w x u' r' d', f_W_hide tb su vh vr vo p1 p2 = some (k, tb', su', vh', vr', w) ∧ f_X8_hide u r d p1 p2 = some (x, u', r', d') ∧ uA u' u k ∧ (k = 0 → w 0 = x.toInt64) ∧ TabX tb' su' r' ∧ HisR vh' vr' u'.2.2.1 d' := by
  have hin1 : f_X8_isCoins p1 = some (decide ((3 : Int32) ≤ p1 ∧ p1 ≤ (12 : Int32))) := by
    have h' : f_X8_in p1.toInt64 (3 : Int64) (12 : Int64) = _ := in32 p1 3 12
    unfold f_X8_isCoins
    rw [h']
    rfl
  have bad : ∀ k : Int32, ¬ k ≤ 0 → f_X8_hide_b33 u r d p1 p2 k = some ((0 : Int32), mK u k, r, d) := fun k hk => by
    unfold f_X8_hide_b33
    rw [refuse_yes u hk, Option.bind_some, if_neg bfT]
  by_cases hok : (3 : Int32) ≤ p1 ∧ p1 ≤ (12 : Int32)
  · obtain ⟨c, hc, rfl⟩ := rng_of (n := 12) (x := p1) (by decide) ⟨by
      have h1 := hok.1
      rw [Int32.le_iff_toInt_le] at h1 ⊢
      have e1 : (3 : Int32).toInt = 3 := by decide
      have e0 : (0 : Int32).toInt = 0 := by decide
      omega, hok.2⟩
    have h3 : 3 ≤ c := (i3_le (a := 3) (by decide) (by omega)).mp hok.1
    have h75 := nC_lt (show c < 13 by omega)
    have hpos : 1 ≤ nC c := by unfold nC; omega
    have c1 : ¬ i3 c < (3 : Int32) := (lt_iff _ _).mpr hok.1
    have e2 : i3 (nC c) - (1 : Int32) = i3 (nC c - 1) := i3_sub (b := 1) hpos
    have hin2 : f_X8_in p2.toInt64 (0 : Int64) (i3 (nC c - 1)).toInt64 = _ := in32 p2 0 (i3 (nC c - 1))
    have R0 : f_X8_hide u r d (i3 c) p2 = if b2i (decide ((0 : Int32) ≤ p2 ∧ p2 ≤ i3 (nC c - 1))) = 0 then f_X8_hide_b33 u r d (i3 c) p2 (1 : Int32) else f_X8_hide_b33 u r d (i3 c) p2 (0 : Int32) := by
      unfold f_X8_hide
      rw [hin1, Option.bind_some, decide_eq_true hok, if_neg bfT, allOf_eq, Option.bind_some, e2, hin2, Option.bind_some]
    by_cases hk : (0 : Int32) ≤ p2 ∧ p2 ≤ i3 (nC c - 1)
    · obtain ⟨q, hq, rfl⟩ := rng_of (show nC c - 1 < 2 ^ 31 by omega) hk
      have clt : i3 q < i3 (nC c) := (i3_lt (by omega) (by omega)).mpr (by omega)
      obtain ⟨vh', vr', a', d', m1, m2, m3⟩ := rem_mK hH h
      obtain ⟨c0, m0, h⟩ := h
      obtain ⟨tb', su', r', k1, k2, k3, k4⟩ := layOut_eq h ⟨h3, hc⟩ (show q < nC c by omega)
      refine ⟨0, tb', su', vh', vr', _, i3 (nC c), mA (mK u 0) a', r', d', ?_, ?_, uA_A u a', fun _ => vo_0 vo _, ⟨c, 0, k3⟩, m3⟩
      · unfold f_W_hide f_X7_hide
        rw [if_neg c1, if_pos hok.2, if_neg (i3_nn (by omega)), casesOf_eq, Option.bind_some, if_pos clt, m1, Option.bind_some, k1, Option.bind_some]
        unfold f_X4_allCases
        rw [k4, casesOf_eq]
        rfl
      · rw [R0, decide_eq_true hk, if_neg bfT]
        unfold f_X8_hide_b33
        rw [refuse_no u, Option.bind_some, if_pos bfF]
        show (f_X8_remember (mK u 0) r d).bind _ = _
        rw [m2, Option.bind_some, k2, Option.bind_some]
    · refine ⟨1, tb, su, vh, vr, vo, 0, mK u 1, r, d, ?_, ?_, uA_K u 1, fun z => absurd z (by decide), h, hH⟩
      · unfold f_W_hide f_X7_hide f_X7_hide_b33
        rw [if_neg c1, if_pos hok.2]
        by_cases hneg : p2 < 0
        · rw [if_pos hneg]
          rfl
        · have h0 : (0 : Int32) ≤ p2 := (nn_iff _).mp hneg
          obtain ⟨n, hn, rfl⟩ := i3_of h0
          rw [if_neg hneg, casesOf_eq, Option.bind_some, if_neg (fun z => hk ⟨h0, (i3_le hn (by omega)).mpr (by
            have := (i3_lt hn (by omega)).mp z
            omega)⟩)]
          rfl
      · rw [R0, decide_eq_false hk, if_pos bfF]
        exact bad 1 (by decide)
  · refine ⟨2, tb, su, vh, vr, vo, 0, mK u 2, r, d, ?_, ?_, uA_K u 2, fun z => absurd z (by decide), h, hH⟩
    · unfold f_W_hide f_X7_hide f_X7_hide_b11
      by_cases hneg : p1 < (3 : Int32)
      · rw [if_pos hneg]
        rfl
      · rw [if_neg hneg, if_neg (fun z => hok ⟨(lt_iff _ _).mp hneg, z⟩)]
        rfl
    · unfold f_X8_hide
      rw [hin1, Option.bind_some, decide_eq_false hok, if_pos bfF]
      exact bad 2 (by decide)
theorem arms_eq {vh : HIv} {vr : HRv} {u : MOv} {d r : Fn} {tb : TBv} {su : Fn} (hH : HisR vh vr u.2.2.1 d) (h : TabX tb su r) (vo : FnL) (p1 p2 : Int32) : ∃ k tb' vh' vr' w x u' r' d', f_W_arms tb su vh vr vo p1 p2 = some (k, tb', vh', vr', w) ∧ f_X8_arms u r d p1 p2 = some (x, u', r', d') ∧ uA u' u k ∧ (k = 0 → w 0 = x.toInt64) ∧ TabX tb' su r' ∧ HisR vh' vr' u'.2.2.1 d' := by
  obtain ⟨b, e1, e2⟩ := isArms_eq p1 p2
  cases b
  · have hn : ¬ (okA p1 ∧ okA p2) := fun z => nomatch (e2.mpr z)
    refine ⟨1, tb, vh, vr, vo, 0, mK u 1, r, d, ?_, ?_, uA_K u 1, fun z => absurd z (by decide), h, hH⟩
    · unfold f_W_arms f_X7_arms f_X7_arms_b14
      rw [isArm_eq, isArm_eq, Option.bind_some]
      by_cases a1 : okA p1
      · rw [decide_eq_true a1, if_neg bfT, Option.bind_some, decide_eq_false (fun z => hn ⟨a1, z⟩), if_pos bfF]
        rfl
      · rw [decide_eq_false a1, if_pos bfF]
        rfl
    · unfold f_X8_arms f_X8_arms_b14
      rw [e1, Option.bind_some, if_pos bfF, refuseB, Option.bind_some, if_neg bfT]
      rfl
  · have hx := e2.mp rfl
    obtain ⟨vh', vr', a', d', m1, m2, m3⟩ := rem_mK hH h
    obtain ⟨c, m, h⟩ := h
    obtain ⟨tb', r', k1, k2, k3⟩ := tryArms_yes h hx
    refine ⟨0, tb', vh', vr', _, if p1 = p2 then (1 : Int32) else 0, mA (mK u 0) a', r', d', ?_, ?_, uA_A u a', fun _ => vo_0 vo _, ⟨c, m, k3⟩, m3⟩
    · unfold f_W_arms f_X7_arms
      rw [isArm_eq, isArm_eq, Option.bind_some, decide_eq_true hx.1, if_neg bfT, Option.bind_some, decide_eq_true hx.2, if_neg bfT, m1, Option.bind_some, k1, Option.bind_some]
      by_cases hq : p1 = p2
      · rw [if_pos hq, if_pos hq]
        rfl
      · rw [if_neg hq, if_neg hq]
        rfl
    · unfold f_X8_arms f_X8_arms_b14
      rw [e1, Option.bind_some, if_neg bfT, refuse_no' u, Option.bind_some, if_pos bfF]
      show (f_X8_remember (mK u 0) r d).bind _ = _
      rw [m2, Option.bind_some, k2, Option.bind_some]
theorem weigh_eq {vh : HIv} {vr : HRv} {u : MOv} {d r : Fn} {tb : TBv} {su : Fn} (hH : HisR vh vr u.2.2.1 d) (h : TabX tb su r) (sc : SCv) (vo : FnL) (p1 p2 : Int32) : ∃ k tb' su' sc' vh' vr' w x u' r' d', f_W_weigh tb su sc vh vr vo p1 p2 = some (k, tb', su', sc', vh', vr', w) ∧ f_X8_weigh u r d p1 p2 = some (x, u', r', d') ∧ uA u' u k ∧ (k = 0 → w 0 = x.toInt64) ∧ TabX tb' su' r' ∧ HisR vh' vr' u'.2.2.1 d' := by
  have hX := h
  obtain ⟨c, m, h⟩ := h
  have hm : m ≤ 20 := h.1.2.1
  obtain ⟨b, e1, e2, e3⟩ := refuse_sets h p1 p2
  have bad : ∀ k : Int32, ¬ k ≤ 0 → f_X8_weigh_b34 u r d p1 p2 k = some ((0 : Int32), mK u k, r, d) := fun k hk => by
    unfold f_X8_weigh_b34
    rw [refuse_yes u hk, Option.bind_some, if_neg bfT]
  have hfull := full_eq h.2.1.2.2.2.2.2.2 hm
  cases b
  · refine ⟨1, tb, su, sc, vh, vr, vo, 0, mK u 1, r, d, ?_, ?_, uA_K u 1, fun z => absurd z (by decide), hX, hH⟩
    · unfold f_W_weigh f_X7_weigh
      rw [e2]
      rfl
    · unfold f_X8_weigh
      rw [e1, Option.bind_some, if_pos bfF]
      exact bad 1 (by decide)
  · have hw := e3.mp rfl
    obtain ⟨b2, q1, q2⟩ := canWR_eq h p1 p2
    have C0 : f_X7_weigh tb su sc vh vr p1 p2 = (f_X4_isFull tb).bind (fun q506 => if (b2i q506) = 0 then (f_X0_remember vh vr tb su).bind (fun q507 => (f_X4_tryWeighing tb su sc p1 p2).bind (fun q508 => (f_X4_lastOutcome q508.2.1).bind (fun q509 => some (.inl (q509, q508.2.1, q508.2.2.1, q508.2.2.2, q507.1, q507.2))))) else some (.inr (2, tb, su, sc, vh, vr))) := by
      unfold f_X7_weigh
      rw [e2, if_pos rfl]
      rfl
    cases b2
    · have h20 : m = 20 := by
        have hx : ¬ m < 20 := fun z => nomatch (q2.mpr ⟨hw, z⟩)
        omega
      refine ⟨2, tb, su, sc, vh, vr, vo, 0, mK u 2, r, d, ?_, ?_, uA_K u 2, fun z => absurd z (by decide), hX, hH⟩
      · unfold f_W_weigh
        rw [C0, hfull, Option.bind_some, decide_eq_true h20, if_neg bfT]
        rfl
      · unfold f_X8_weigh
        rw [e1, Option.bind_some, if_neg bfT, q1, Option.bind_some, if_pos bfF]
        exact bad 2 (by decide)
    · have hm20 := (q2.mp rfl).2
      obtain ⟨vh', vr', a', d', m1, m2, m3⟩ := rem_mK hH hX
      obtain ⟨tb', su', sc', r', o, k1, k2, k3, k4, -⟩ := tryWeighing_yes h hw hm20
      have hlast : f_X4_lastOutcome tb' = some o := by
        unfold f_X4_lastOutcome
        rw [k3.2.1.2.2.2.2.2.2, show i3 (m + 1) - (1 : Int32) = i3 m from i3_sub (a := m + 1) (b := 1) (by omega)]
        rw [show f_X4_kept tb' (i3 m) (2 : Int32) = some o from (kept_rd (j := 2) hm20 (by decide)).trans (congrArg some k4)]
        rfl
      refine ⟨0, tb', su', sc', vh', vr', _, o, mA (mK u 0) a', r', d', ?_, ?_, uA_A u a', fun _ => vo_0 vo _, ⟨c, m + 1, k3⟩, m3⟩
      · unfold f_W_weigh
        rw [C0, hfull, Option.bind_some, decide_eq_false (by omega), if_pos bfF, m1, Option.bind_some, k1, Option.bind_some]
        show ((f_X4_lastOutcome tb').bind _ : Option _).bind _ = _
        rw [hlast]
        rfl
      · unfold f_X8_weigh f_X8_weigh_b34
        rw [e1, Option.bind_some, if_neg bfT, q1, Option.bind_some, if_neg bfT, refuse_no u, Option.bind_some, if_pos bfF]
        show (f_X8_remember (mK u 0) r d).bind _ = _
        rw [m2, Option.bind_some, k2, Option.bind_some]
theorem accuse_eq {vh : HIv} {vr : HRv} {u : MOv} {d r : Fn} {tb : TBv} {su : Fn} (hH : HisR vh vr u.2.2.1 d) (h : TabX tb su r) (vo : FnL) (p1 : Int32) (p2 : Bool) : ∃ k tb' vh' vr' w x u' r' d', f_W_accuse tb su vh vr vo p1 p2 = some (k, tb', vh', vr', w) ∧ f_X8_accuse u r d p1 p2 = some (x, u', r', d') ∧ uA u' u k ∧ (k = 0 → w 0 = x.toInt64) ∧ TabX tb' su r' ∧ HisR vh' vr' u'.2.2.1 d' := by
  have hX := h
  obtain ⟨c, m, h⟩ := h
  obtain ⟨b, x1, y1, s1⟩ := hasCoin_eq h p1
  cases b
  · refine ⟨1, tb, vh, vr, vo, 0, mK u 1, r, d, ?_, ?_, uA_K u 1, fun z => absurd z (by decide), hX, hH⟩
    · unfold f_W_accuse f_X7_accuse
      rw [x1, Option.bind_some, if_pos bfF]
      rfl
    · unfold f_X8_accuse f_X8_accuse_b17
      rw [y1, Option.bind_some, if_pos bfF, refuseB, Option.bind_some, if_neg bfT]
      rfl
  · obtain ⟨vh', vr', a', d', m1, m2, m3⟩ := rem_mK hH hX
    obtain ⟨dd, tb', r', k1, k2, k3⟩ := blameCoin_eq h p1 p2
    refine ⟨0, tb', vh', vr', _, b2i dd, mA (mK u 0) a', r', d', ?_, ?_, uA_A u a', fun _ => vo_0 vo _, ⟨c, m, k3⟩, m3⟩
    · unfold f_W_accuse f_X7_accuse
      rw [x1, Option.bind_some, if_neg bfT, m1, Option.bind_some, k1, Option.bind_some]
      cases dd
      · rw [if_pos bfF]
        rfl
      · rw [if_neg bfT]
        rfl
    · unfold f_X8_accuse f_X8_accuse_b17
      rw [y1, Option.bind_some, if_neg bfT, refuse_no' u, Option.bind_some, if_pos bfF]
      show (f_X8_remember (mK u 0) r d).bind _ = _
      rw [m2, Option.bind_some, k2, Option.bind_some]
theorem accusePan_eq {vh : HIv} {vr : HRv} {u : MOv} {d r : Fn} {tb : TBv} {su : Fn} (hH : HisR vh vr u.2.2.1 d) (h : TabX tb su r) (vo : FnL) (p1 : Int32) : ∃ k tb' vh' vr' w x u' r' d', f_W_accusePan tb su vh vr vo p1 = some (k, tb', vh', vr', w) ∧ f_X8_accusePan u r d p1 = some (x, u', r', d') ∧ uA u' u k ∧ (k = 0 → w 0 = x.toInt64) ∧ TabX tb' su r' ∧ HisR vh' vr' u'.2.2.1 d' := by
  have hX := h
  obtain ⟨c, m, h⟩ := h
  have n1 : (1 : Int32).toNatClampNeg = 1 := by decide
  have hin : f_X8_in p1.toInt64 (0 : Int64) (2 : Int64) = _ := in32 p1 0 2
  by_cases hok : (0 : Int32) ≤ p1 ∧ p1 ≤ (2 : Int32)
  · obtain ⟨vh', vr', a', d', m1, m2, m3⟩ := rem_mK hH hX
    obtain ⟨dd, tb', r', k1, k2, k3⟩ := blamePan_eq h p1
    refine ⟨0, tb', vh', vr', _, b2i dd, mA (mK u 0) a', r', d', ?_, ?_, uA_A u a', fun _ => vo_0 vo _, ⟨c, m, k3⟩, m3⟩
    · unfold f_W_accusePan f_X7_accusePan
      rw [isPan_eq, Option.bind_some, decide_eq_true hok, if_neg bfT, m1, Option.bind_some, k1, Option.bind_some]
      cases dd
      · rw [if_pos bfF]
        rfl
      · rw [if_neg bfT]
        rfl
    · unfold f_X8_accusePan f_X8_accusePan_b18 f_X8_accusePan_b51
      rw [hin, Option.bind_some, decide_eq_true hok, if_neg bfT, refuse_no' u, Option.bind_some, if_pos bfF]
      show (f_X8_remember (mK u 0) r d).bind _ = _
      rw [m2, Option.bind_some, n1]
      by_cases hq : r 1 - r 1 / (3 : Int32) * (3 : Int32) = p1
      · rw [decide_eq_true hq] at k2
        rw [if_pos hq, k2, Option.bind_some]
      · rw [decide_eq_false hq] at k2
        rw [if_neg hq, k2, Option.bind_some]
  · refine ⟨1, tb, vh, vr, vo, 0, mK u 1, r, d, ?_, ?_, uA_K u 1, fun z => absurd z (by decide), hX, hH⟩
    · unfold f_W_accusePan f_X7_accusePan
      rw [isPan_eq, Option.bind_some, decide_eq_false hok, if_pos bfF]
      rfl
    · unfold f_X8_accusePan f_X8_accusePan_b18
      rw [hin, Option.bind_some, decide_eq_false hok, if_pos bfF, refuseB, Option.bind_some, if_neg bfT]
      rfl
theorem forget_eq {vh : HIv} {vr : HRv} {u : MOv} {d r : Fn} {tb : TBv} {su : Fn} (hH : HisR vh vr u.2.2.1 d) (h : TabX tb su r) (sc : SCv) (vo : FnL) : ∃ k tb' su' sc' vh' vr' w x u' r' d', f_W_forget tb su sc vh vr vo = some (k, tb', su', sc', vh', vr', w) ∧ f_X8_forget u r d = some (x, u', r', d') ∧ uA u' u k ∧ (k = 0 → w 0 = x.toInt64) ∧ TabX tb' su' r' ∧ HisR vh' vr' u'.2.2.1 d' := by
  have hX := h
  obtain ⟨c, m, h⟩ := h
  have hm : m ≤ 20 := h.1.2.1
  have n4 : (4 : Int32).toNatClampNeg = 4 := by decide
  have f7 := h.2.1.2.2.2.2.2.2
  have r4 := h.1.2.2.2.2
  cases m with
  | zero =>
    refine ⟨1, tb, su, sc, vh, vr, vo, 0, mK u 1, r, d, ?_, ?_, uA_K u 1, fun z => absurd z (by decide), hX, hH⟩
    · unfold f_W_forget f_X7_forget
      rw [f7, if_neg (show ¬ (0 : Int32) < i3 0 by decide)]
      rfl
    · unfold f_X8_forget f_X8_forget_b15
      rw [n4, r4, if_pos (show i3 0 = 0 from rfl), refuseB, Option.bind_some, if_neg bfT]
      rfl
  | succ m =>
    obtain ⟨vh', vr', a', d', m1, m2, m3⟩ := rem_mK hH hX
    obtain ⟨tb', su', sc', r', k1, k2, k3, k4⟩ := tryForgetting_yes (sc := sc) h
    refine ⟨0, tb', su', sc', vh', vr', _, i3 m, mA (mK u 0) a', r', d', ?_, ?_, uA_A u a', fun _ => vo_0 vo _, ⟨c, m, k3⟩, m3⟩
    · unfold f_W_forget f_X7_forget
      rw [f7, if_pos (show (0 : Int32) < i3 (m + 1) from (i3_lt (a := 0) (by decide) (by omega)).mpr (by omega)), m1, Option.bind_some, k1, Option.bind_some, k4]
      rfl
    · unfold f_X8_forget f_X8_forget_b15
      rw [n4, r4, if_neg (fun z => by
        have := (i3_eq (b := 0) (show m + 1 < 2 ^ 31 by omega) (by decide)).mp z
        omega), refuse_no' u, Option.bind_some, if_pos bfF]
      show (f_X8_remember (mK u 0) r d).bind _ = _
      rw [m2, Option.bind_some, k2, Option.bind_some]
