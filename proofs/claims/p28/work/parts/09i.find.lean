/-! ===== what would be, by both ===== -/
theorem gath_mK {r : Fn} {m c : Nat} {tb : TBv} {su : Fn} (h : TabR c m tb su r) (u : MOv) (v7 : Fn) : ∃ v L, f_X8_gather (mK u 0) v7 r = some (moL (mK u 0) (i3 L), v) ∧ GathR v L (fitB r m) (nC c) := by
  have hc : c < 13 := by have := h.1.1.2; omega
  exact gather_eq h.rows h.1.2.1 h.1.2.2.2.1 h.1.2.2.2.2 hc (mK u 0) v7
theorem sharpest_askZ {tb : TBv} {su r : Fn} {c m : Nat} (h : TabR c m tb su r) (v3 : SCv) (v13 : TAv) (u : MOv) (u7 u8 : Fn) : ∃ b v3' v13' u' u7' u8', f_X7_sharpest tb su v3 v13 = some (b, v3', v13') ∧ f_X8_sharpest u r u7 u8 = some (b, u', u7', u8') ∧ uK u' u 0 ∧ ((∀ a b, prs (PR r c m) a b (r 2) (r 3) = 0) → b = -1) := by
  obtain ⟨v, L, g1, g2⟩ := gath_mK h u u7
  obtain ⟨e1, e2, s1, s2, s3, s4⟩ := sh_outer (v0 := mK u 0) h g2 v3 v13 u8
  refine ⟨e2.1, e1.2.1, e1.2.2, moL (mK u 0) (i3 L), v, e2.2, ?_, ?_, uK_L u _, fun hz => s3 ▸ s4 hz⟩
  · unfold f_X7_sharpest
    rw [s1, Option.bind_some, s3]
  · unfold f_X8_sharpest
    rw [g1, Option.bind_some, s2, Option.bind_some]
theorem refuse_sets {tb : TBv} {su r : Fn} {c m : Nat} (h : TabR c m tb su r) (a b : Int32) : ∃ d : Bool, f_X8_isWeighing r a b = some d ∧ f_X7_refuseBadSets tb a b = some (if d = true then .inl () else .inr 1) ∧ (d = true ↔ WS c a b) := by
  have hc : c < 13 := by have := h.1.1.2; omega
  obtain ⟨d, e1, e2⟩ := isWeighing_eq hc h.1.2.2.2.1 a b
  obtain ⟨d', k1, k2⟩ := canWeigh_eq hc h.2.1.1 a b
  have hdd : d' = d := by
    rw [Bool.eq_iff_iff, e2, k2]
  subst hdd
  refine ⟨d', e1, ?_, e2⟩
  unfold f_X7_refuseBadSets
  rw [k1, Option.bind_some]
  cases d'
  · rw [if_pos bfF, if_neg (by decide)]
  · rw [if_neg bfT, if_pos rfl]
theorem bestArms_eq {tb : TBv} {su r : Fn} (h : TabX tb su r) (v3 : SCv) (v13 : TAv) (u : MOv) (u7 u8 : Fn) (vo : FnL) (a b : Int32) : ∃ k v3' v13' w x u' u7' u8', f_W_bestArms tb su v3 v13 vo a b = some (k, v3', v13', w) ∧ f_X8_bestArms u r u7 u8 a b = some (x, u', u7', u8') ∧ uK u' u k ∧ (k = 0 → w 0 = x.toInt64) := by
  obtain ⟨c, m, h⟩ := h
  obtain ⟨d, e1, e2, e3⟩ := refuse_sets h a b
  cases d
  · refine ⟨1, v3, v13, vo, 0, mK u 1, u7, u8, ?_, ?_, uK_mK u 1, fun z => absurd z (by decide)⟩
    · unfold f_W_bestArms f_X7_bestArms
      rw [e2]
      rfl
    · unfold f_X8_bestArms f_X8_bestArms_b18
      rw [e1, Option.bind_some, if_pos bfF, refuseB, Option.bind_some, if_neg bfT]
      rfl
  · obtain ⟨v, L, g1, g2⟩ := gath_mK h u u7
    obtain ⟨y1, y2, s1, s2, s3⟩ := bA_outer (v0 := mK u 0) h g2 (e3.mp rfl) v3 v13 u8
    refine ⟨0, y1.2.1, y1.2.2, _, y1.1, moL (mK u 0) (i3 L), v, y2.2, ?_, ?_, uK_L u _, fun _ => vo_0 vo _⟩
    · unfold f_W_bestArms f_X7_bestArms
      rw [e2, if_pos rfl]
      show ((itl (f_X7_bestArms_B14 tb su a b) FU ((-1 : Int32), (-1 : Int32), (1 : Int32), v3, v13)).bind _ : Option _).bind _ = _
      rw [s1]
      rfl
    · unfold f_X8_bestArms f_X8_bestArms_b18
      rw [e1, Option.bind_some, if_neg bfT, refuse_no' u, Option.bind_some, if_pos bfF, g1, Option.bind_some, s2, Option.bind_some, s3]
theorem leaves_eq {tb : TBv} {su r : Fn} (h : TabX tb su r) (v3 : SCv) (v13 : TAv) (u : MOv) (u7 u8 : Fn) (vo : FnL) (a b o : Int32) : ∃ k v3' v13' w x u' u7' u8', f_W_leaves tb su v3 v13 vo a b o = some (k, v3', v13', w) ∧ f_X8_leaves u r u7 u8 a b o = some (x, u', u7', u8') ∧ uK u' u k ∧ (k = 0 → w 0 = x.toInt64) := by
  obtain ⟨c, m, h⟩ := h
  have hc : c < 13 := by have := h.1.1.2; omega
  have hin : f_X8_in o.toInt64 (0 : Int64) (2 : Int64) = _ := in32 o 0 2
  have n2 : (2 : Int32).toNatClampNeg = 2 := by decide
  have n3 : (3 : Int32).toNatClampNeg = 3 := by decide
  have bad : ∀ k : Int32, ¬ k ≤ 0 → f_X8_leaves_b34 u r u7 u8 a b o k = some ((0 : Int32), mK u k, u7, u8) := fun k hk => by
    unfold f_X8_leaves_b34
    rw [refuse_yes u hk, Option.bind_some, if_neg bfT]
  by_cases hok : (0 : Int32) ≤ o ∧ o ≤ (2 : Int32)
  · obtain ⟨q, hq, rfl⟩ := rng_of (n := 2) (by decide) hok
    have c3 : i3 q < (3 : Int32) := (i3_lt (b := 3) (by omega) (by decide)).mpr (by omega)
    obtain ⟨d, e1, e2, e3⟩ := refuse_sets h a b
    have C0 : f_X7_leaves tb su v3 v13 a b (i3 q) = (f_X7_refuseBadSets tb a b).bind (Sum.elim (fun q552 => (f_X4_foresee tb su v3 v13 a b).bind (fun q553 => (f_X5_of q553.2 (i3 q)).bind (fun q554 => some (.inl (q554, q553.1, q553.2))))) (fun q552 => some (.inr (q552, v3, v13)))) := by
      unfold f_X7_leaves
      rw [if_neg (i3_nn (by omega)), if_pos c3]
    cases d
    · refine ⟨2, v3, v13, vo, 0, mK u 2, u7, u8, ?_, ?_, uK_mK u 2, fun z => absurd z (by decide)⟩
      · unfold f_W_leaves
        rw [C0, e2]
        rfl
      · unfold f_X8_leaves
        rw [hin, Option.bind_some, decide_eq_true hok, if_neg bfT, e1, Option.bind_some, if_pos bfF]
        exact bad 2 (by decide)
    · have hw := e3.mp rfl
      obtain ⟨v, L, g1, g2⟩ := gath_mK h u u7
      obtain ⟨v8', W1, W2, W3, W4⟩ := worst_eq hc g2 (mK u 0) u8 a b (r 2) (r 3) (hw.1.b12 hc) (hw.2.1.b12 hc)
      have hF := fore_eq h v3 v13 (hw.1.sm hc) (hw.2.1.sm hc) hw.2.2.1
      have hof : f_X5_of (tal (PR r c m) a b (r 2) (r 3)) (i3 q) = some (v8' q) := by
        unfold f_X5_of
        have hq3 : q = 0 ∨ q = 1 ∨ q = 2 := by omega
        rcases hq3 with rfl | rfl | rfl
        · rw [if_pos (show i3 0 = 0 from rfl), W2]
        · rw [if_neg (show ¬ i3 1 = 0 by decide), if_pos (show i3 1 = (1 : Int32) from rfl), W3]
        · rw [if_neg (show ¬ i3 2 = 0 by decide), if_neg (show ¬ i3 2 = (1 : Int32) by decide), W4]
      refine ⟨0, scOf a b (r 2) (r 3), tal (PR r c m) a b (r 2) (r 3), _, v8' q, moL (mK u 0) (i3 L), v, v8', ?_, ?_, uK_L u _, fun _ => vo_0 vo _⟩
      · unfold f_W_leaves
        rw [C0, e2, if_pos rfl]
        show ((f_X4_foresee tb su v3 v13 a b).bind (fun q553 => (f_X5_of q553.2 (i3 q)).bind (fun q554 => some (.inl (q554, q553.1, q553.2)))) : Option ((Int32 × SCv × TAv) ⊕ (Nat × SCv × TAv))).bind _ = _
        rw [hF, Option.bind_some, hof]
        rfl
      · unfold f_X8_leaves f_X8_leaves_b34
        rw [hin, Option.bind_some, decide_eq_true hok, if_neg bfT, e1, Option.bind_some, if_neg bfT, refuse_no u, Option.bind_some, if_pos bfF, g1, Option.bind_some, n2, n3, W1, Option.bind_some, if_neg (i3_in (by omega) (by decide)), i3_nat (by omega)]
  · refine ⟨1, v3, v13, vo, 0, mK u 1, u7, u8, ?_, ?_, uK_mK u 1, fun z => absurd z (by decide)⟩
    · unfold f_W_leaves f_X7_leaves f_X7_leaves_b9
      by_cases hneg : o < 0
      · rw [if_pos hneg]
        rfl
      · have h0 : (0 : Int32) ≤ o := (nn_iff _).mp hneg
        obtain ⟨n, hn, rfl⟩ := i3_of h0
        rw [if_neg hneg, if_neg (fun z => hok ⟨h0, (i3_le (b := 2) hn (by decide)).mpr (by
          have := (i3_lt (b := 3) hn (by decide)).mp z
          omega)⟩)]
        rfl
    · unfold f_X8_leaves
      rw [hin, Option.bind_some, decide_eq_false hok, if_pos bfF]
      exact bad 1 (by decide)
theorem best_eq {tb : TBv} {su r v14 v15 : Fn} (h : TabX tb su r) (hL1 : LsR v14 12 1) (hL2 : LsR v15 66 2) (v3 : SCv) (v13 : TAv) (u : MOv) (u7 u8 : Fn) (vo : FnL) (j what : Int32) : ∃ k v3' v13' w x u' u7' u8', f_W_best tb su v3 v13 v14 v15 vo j what = some (k, v3', v13', w) ∧ f_X8_best u r u7 u8 j what = some (x, u', u7', u8') ∧ uK u' u k ∧ (k = 0 → w 0 = x.toInt64) := by
  obtain ⟨c, m, h⟩ := h
  have hc : c < 13 := by have := h.1.1.2; omega
  have n0 : (0 : Int32).toNatClampNeg = 0 := by decide
  have hinj : f_X8_in j.toInt64 (1 : Int64) (2 : Int64) = _ := in32 j 1 2
  have hinw : f_X8_in what.toInt64 (0 : Int64) (2 : Int64) = _ := in32 what 0 2
  have bad : f_X8_best_b29 u r u7 u8 j what = some ((0 : Int32), mK u 1, u7, u8) := by
    unfold f_X8_best_b29 f_X8_best_b30
    rw [refuseB, Option.bind_some, if_neg bfT]
    rfl
  by_cases hj : (1 : Int32) ≤ j ∧ j ≤ (2 : Int32)
  · have cj : ¬ j < (1 : Int32) := (lt_iff _ _).mpr hj.1
    by_cases hw : (0 : Int32) ≤ what ∧ what ≤ (2 : Int32)
    · have cw : ¬ what < 0 := (nn_iff _).mpr hw.1
      obtain ⟨v, L, g1, g2⟩ := gath_mK h u u7
      have fin : ∀ (jj : Nat), (jj = 1 ∨ jj = 2) → j = i3 jj → (∃ e : Int32 × Int32 × Int32 × SCv × TAv, (e.1, e.2.1, e.2.2.1) = (stj jj c).foldl (fun t a => (stj jj c).foldl (gst (PR r c m) (r 2) (r 3) a) t) ((-1 : Int32), (-1 : Int32), (-1 : Int32)) ∧ f_X7_best tb su v3 v13 v14 v15 j what = f_X7_best_b201 tb su e.2.2.2.1 e.2.2.2.2 v14 v15 what e.1 e.2.1 e.2.2.1) → ∃ k v3' v13' w x u' u7' u8', f_W_best tb su v3 v13 v14 v15 vo j what = some (k, v3', v13', w) ∧ f_X8_best u r u7 u8 j what = some (x, u', u7', u8') ∧ uK u' u k ∧ (k = 0 → w 0 = x.toInt64) := by
        rintro jj hjj rfl ⟨e, he1, he2⟩
        obtain ⟨y, y1, y2⟩ := bR_out (jj := jj) (v0 := mK u 0) h g2 what (by omega) ((-1 : Int32), (-1 : Int32), (-1 : Int32)) u8
        rw [← he1] at y2
        have q1 : y.1 = e.1 := congrArg (fun z : T3 => z.1) y2
        have q2 : y.2.1 = e.2.1 := congrArg (fun z : T3 => z.2.1) y2
        have q3 : y.2.2.1 = e.2.2.1 := congrArg (fun z : T3 => z.2.2) y2
        have y1' : itl (f_X8_best_B67 (moL (mK u 0) (i3 L)) r v (i3 jj) what (i3 (2 ^ c))) FU ((-1 : Int32), (-1 : Int32), (-1 : Int32), (0 : Int32), u8) = some y := y1
        have R1 : f_X8_best u r u7 u8 (i3 jj) what = if what = 0 then some (y.1, moL (mK u 0) (i3 L), v, y.2.2.2) else if what = (1 : Int32) then some (y.2.1, moL (mK u 0) (i3 L), v, y.2.2.2) else some (y.2.2.1, moL (mK u 0) (i3 L), v, y.2.2.2) := by
          unfold f_X8_best f_X8_best_b30
          rw [hinj, Option.bind_some, decide_eq_true hj, if_neg bfT, hinw, Option.bind_some, decide_eq_true hw, if_neg bfT, refuse_no' u, Option.bind_some, if_pos bfF, g1, Option.bind_some, n0, h.1.2.2.2.1, shl_c c hc, y1', Option.bind_some]
        have C1 : f_W_best tb su v3 v13 v14 v15 vo (i3 jj) what = some ((0 : Int32), e.2.2.2.1, e.2.2.2.2, vp_updL vo (0 : Int32).toNatClampNeg (if what = 0 then e.1 else if what = (1 : Int32) then e.2.1 else e.2.2.1).toInt64) := by
          unfold f_W_best
          rw [he2]
          unfold f_X7_best_b201
          by_cases w0 : what = 0
          · rw [if_pos w0, if_pos w0]
            rfl
          · rw [if_neg w0, if_neg w0]
            by_cases w1 : what = (1 : Int32)
            · rw [if_pos w1, if_pos w1]
              rfl
            · rw [if_neg w1, if_neg w1]
              rfl
        refine ⟨0, _, _, _, (if what = 0 then e.1 else if what = (1 : Int32) then e.2.1 else e.2.2.1), moL (mK u 0) (i3 L), v, y.2.2.2, C1, ?_, uK_L u _, fun _ => vo_0 vo _⟩
        rw [R1, q1, q2, q3]
        by_cases w0 : what = 0
        · rw [if_pos w0, if_pos w0]
        · rw [if_neg w0, if_neg w0]
          by_cases w1 : what = (1 : Int32)
          · rw [if_pos w1, if_pos w1]
          · rw [if_neg w1, if_neg w1]
      have C0 : f_X7_best tb su v3 v13 v14 v15 j what = if j = (1 : Int32) then f_X7_best_b57v1 tb su v3 v13 v14 v15 what else f_X7_best_b57 tb su v3 v13 v14 v15 what := by
        unfold f_X7_best
        rw [if_neg cj, if_pos hj.2, if_neg cw, if_pos hw.2]
      by_cases j1 : j = (1 : Int32)
      · refine fin 1 (Or.inl rfl) j1 ?_
        obtain ⟨e, l1, l2⟩ := bC_out1 (v14 := v14) (v15 := v15) h hL1 what ((-1 : Int32), (-1 : Int32), (-1 : Int32)) v3 v13
        refine ⟨e, l2, ?_⟩
        have l1' : itl (f_X7_best_B81v1 tb su v14 v15 what (i3 (2 ^ c))) FU ((-1 : Int32), (-1 : Int32), (-1 : Int32), (0 : Int32), v3, v13) = some e := l1
        rw [C0, if_pos j1]
        unfold f_X7_best_b57v1
        rw [h.2.1.1, shl_c c hc, l1', Option.bind_some]
      · have j2 : j = i3 2 := by
          obtain ⟨n, hn, rfl⟩ := rng_of (n := 2) (x := j) (by decide) ⟨by
            have h1 := hj.1
            rw [Int32.le_iff_toInt_le] at h1 ⊢
            have e1 : (1 : Int32).toInt = 1 := by decide
            have e0 : (0 : Int32).toInt = 0 := by decide
            omega, hj.2⟩
          have h1 : 1 ≤ n := (i3_le (a := 1) (by decide) (by omega)).mp hj.1
          have hne : n ≠ 1 := fun z => j1 (z ▸ rfl)
          exact congrArg i3 (by omega)
        refine fin 2 (Or.inr rfl) j2 ?_
        obtain ⟨e, l1, l2⟩ := bC_out2 (v14 := v14) (v15 := v15) h hL2 what ((-1 : Int32), (-1 : Int32), (-1 : Int32)) v3 v13
        refine ⟨e, l2, ?_⟩
        have l1' : itl (f_X7_best_B81 tb su v14 v15 what (i3 (2 ^ c))) FU ((-1 : Int32), (-1 : Int32), (-1 : Int32), (0 : Int32), v3, v13) = some e := l1
        rw [C0, if_neg j1]
        unfold f_X7_best_b57
        rw [h.2.1.1, shl_c c hc, l1', Option.bind_some]
    · refine ⟨1, v3, v13, vo, 0, mK u 1, u7, u8, ?_, ?_, uK_mK u 1, fun z => absurd z (by decide)⟩
      · unfold f_W_best f_X7_best f_X7_best_b30
        rw [if_neg cj, if_pos hj.2]
        by_cases hneg : what < 0
        · rw [if_pos hneg]
          rfl
        · rw [if_neg hneg, if_neg (fun z => hw ⟨(nn_iff _).mp hneg, z⟩)]
          rfl
      · unfold f_X8_best
        rw [hinj, Option.bind_some, decide_eq_true hj, if_neg bfT, hinw, Option.bind_some, decide_eq_false hw, if_pos bfF]
        exact bad
  · refine ⟨1, v3, v13, vo, 0, mK u 1, u7, u8, ?_, ?_, uK_mK u 1, fun z => absurd z (by decide)⟩
    · unfold f_W_best f_X7_best f_X7_best_b10
      by_cases hneg : j < (1 : Int32)
      · rw [if_pos hneg]
        rfl
      · rw [if_neg hneg, if_neg (fun z => hj ⟨(lt_iff _ _).mp hneg, z⟩)]
        rfl
    · unfold f_X8_best
      rw [hinj, Option.bind_some, decide_eq_false hj, if_pos bfF]
      exact bad
