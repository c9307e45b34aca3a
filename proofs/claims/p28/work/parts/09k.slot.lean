/-! ===== slots and text, by both ===== -/
def SloR (v7 : Int32) (v8 : TBv) (v9 : Fn) (v10 : Int32) (v11 : TBv) (v12 : Fn) (u5 u6 : Fn) : Prop := ((v7 = 0) ↔ (u6 0 = 0)) ∧ (¬ v7 = 0 → TabX v8 v9 (fun t => u5 t)) ∧ ((v10 = 0) ↔ (u6 1 = 0)) ∧ (¬ v10 = 0 → TabX v11 v12 (fun t => u5 (107 + t)))
theorem nar_1 : ¬ vp_nar .boolean (1 : Int32) = 0 := by decide
theorem cnt_both {tb : TBv} {su r : Fn} (h : TabX tb su r) : ∃ n, f_X3_count su = some (i3 n) ∧ f_X8_leftOf r = some (i3 n) := by
  obtain ⟨c, m, h⟩ := h
  obtain ⟨n, -, z1, z2, -⟩ := left_both h
  exact ⟨n, z1, z2⟩
theorem save_eq {tb : TBv} {su r u5 u6 : Fn} (h : TabX tb su r) {v7 : Int32} {v8 : TBv} {v9 : Fn} {v10 : Int32} {v11 : TBv} {v12 : Fn} (hS : SloR v7 v8 v9 v10 v11 v12 u5 u6) (u : MOv) (vo : FnL) (p1 : Int32) : ∃ k v7' v8' v9' v10' v11' v12' w x u' u5' u6', f_W_save tb su v7 v8 v9 v10 v11 v12 vo p1 = some (k, v7', v8', v9', v10', v11', v12', w) ∧ f_X8_save u r u5 u6 p1 = some (x, u', u5', u6') ∧ uK u' u k ∧ (k = 0 → w 0 = x.toInt64) ∧ SloR v7' v8' v9' v10' v11' v12' u5' u6' := by
  have hin : f_X8_in p1.toInt64 (0 : Int64) (1 : Int64) = _ := in32 p1 0 1
  obtain ⟨s1, s2, s3, s4⟩ := hS
  obtain ⟨n, z1, z2⟩ := cnt_both h
  by_cases hok : (0 : Int32) ≤ p1 ∧ p1 ≤ (1 : Int32)
  · obtain ⟨s, hs, rfl⟩ := rng_of (n := 1) (by decide) hok
    have clt : i3 s < (2 : Int32) := (i3_lt (b := 2) (by omega) (by decide)).mpr (by omega)
    have em : (107 : Int32) * i3 s = i3 (107 * s) := i3_mul 107 s
    have hcp : f_X8_copyState 107 214 r u5 (0 : Int32) (i3 (107 * s)) = _ := copyR_eq (p := 0) (q := 107 * s) (by decide) (by omega) (by decide) (by decide)
    have R1 : f_X8_save u r u5 u6 (i3 s) = some (i3 n, mK u 0, cpR r u5 0 (107 * s) 107, upd u6 s (vp_nar .boolean (1 : Int32))) := by
      unfold f_X8_save f_X8_save_b16
      rw [hin, Option.bind_some, decide_eq_true hok, if_neg bfT, refuse_no' u, Option.bind_some, if_pos bfF, em, hcp, Option.bind_some, if_neg (i3_in (by omega) (by decide)), z2, Option.bind_some, i3_nat (by omega)]
    have hcase : s = 0 ∨ s = 1 := by omega
    rcases hcase with rfl | rfl
    · obtain ⟨tb', su', k1, k2⟩ := cpT h v8 v9
      refine ⟨0, 1, tb', su', v10, v11, v12, _, i3 n, mK u 0, _, _, ?_, R1, uK_mK u 0, fun _ => vo_0 vo _, ?_, fun _ => ?_, ?_, fun hv => ?_⟩
      · unfold f_W_save f_X7_save f_X7_save_b35v1
        rw [if_neg (i3_nn (by omega)), if_pos clt, if_pos (show i3 0 = 0 from rfl), k1, Option.bind_some, z1]
        rfl
      · rw [upd_at]
        exact ⟨fun z => absurd z (by decide), fun z => absurd z nar_1⟩
      · refine k2.ext (fun t ht => ?_)
        unfold cpR
        rw [if_pos (by omega)]
        exact congrArg r (by omega)
      · rw [upd_ne (by decide)]
        exact s3
      · refine (s4 hv).ext (fun t ht => ?_)
        unfold cpR
        rw [if_neg (by omega)]
    · obtain ⟨tb', su', k1, k2⟩ := cpT h v11 v12
      refine ⟨0, v7, v8, v9, 1, tb', su', _, i3 n, mK u 0, _, _, ?_, R1, uK_mK u 0, fun _ => vo_0 vo _, ?_, fun hv => ?_, ?_, fun _ => ?_⟩
      · unfold f_W_save f_X7_save f_X7_save_b35
        rw [if_neg (i3_nn (by omega)), if_pos clt, if_neg (show ¬ i3 1 = 0 by decide), k1, Option.bind_some, z1]
        rfl
      · rw [upd_ne (by decide)]
        exact s1
      · refine (s2 hv).ext (fun t ht => ?_)
        unfold cpR
        rw [if_neg (by omega)]
      · rw [upd_at]
        exact ⟨fun z => absurd z (by decide), fun z => absurd z nar_1⟩
      · refine k2.ext (fun t ht => ?_)
        unfold cpR
        rw [if_pos (by omega)]
        exact congrArg r (by omega)
  · refine ⟨1, v7, v8, v9, v10, v11, v12, vo, 0, mK u 1, u5, u6, ?_, ?_, uK_mK u 1, fun z => absurd z (by decide), s1, s2, s3, s4⟩
    · unfold f_W_save f_X7_save f_X7_save_b9
      by_cases hneg : p1 < 0
      · rw [if_pos hneg]
        rfl
      · have h0 : (0 : Int32) ≤ p1 := (nn_iff _).mp hneg
        obtain ⟨q, hq, rfl⟩ := i3_of h0
        rw [if_neg hneg, if_neg (fun z => hok ⟨h0, (i3_le (b := 1) hq (by decide)).mpr (by
          have := (i3_lt (b := 2) hq (by decide)).mp z
          omega)⟩)]
        rfl
    · unfold f_X8_save f_X8_save_b16
      rw [hin, Option.bind_some, decide_eq_false hok, if_pos bfF, refuseB, Option.bind_some, if_neg bfT]
      rfl
theorem restore_eq {tb : TBv} {su r u5 u6 d : Fn} (h : TabX tb su r) {v7 : Int32} {v8 : TBv} {v9 : Fn} {v10 : Int32} {v11 : TBv} {v12 : Fn} {vh : HIv} {vr : HRv} {u : MOv} (hS : SloR v7 v8 v9 v10 v11 v12 u5 u6) (hH : HisR vh vr u.2.2.1 d) (vo : FnL) (p1 : Int32) : ∃ k tb' su' vh' w x u' r', f_W_restore tb su vh v7 v8 v9 v10 v11 v12 vo p1 = some (k, tb', su', vh', w) ∧ f_X8_restore u r u5 u6 p1 = some (x, u', r') ∧ uA u' u k ∧ (k = 0 → w 0 = x.toInt64) ∧ TabX tb' su' r' ∧ HisR vh' vr u'.2.2.1 d := by
  have hin : f_X8_in p1.toInt64 (0 : Int64) (1 : Int64) = _ := in32 p1 0 1
  obtain ⟨s1, s2, s3, s4⟩ := hS
  have bad : ∀ k : Int32, ¬ k ≤ 0 → f_X8_restore_b29 u r u5 u6 p1 k = some ((0 : Int32), mK u k, r) := fun k hk => by
    unfold f_X8_restore_b29
    rw [refuse_yes u hk, Option.bind_some, if_neg bfT]
  by_cases hok : (0 : Int32) ≤ p1 ∧ p1 ≤ (1 : Int32)
  · obtain ⟨s, hs, rfl⟩ := rng_of (n := 1) (by decide) hok
    have clt : i3 s < (2 : Int32) := (i3_lt (b := 2) (by omega) (by decide)).mpr (by omega)
    have em : (107 : Int32) * i3 s = i3 (107 * s) := i3_mul 107 s
    have hcp : f_X8_copyState 214 107 u5 r (i3 (107 * s)) (0 : Int32) = _ := copyR_eq (p := 107 * s) (q := 0) (by omega) (by decide) (by decide) (by decide)
    have R0 : f_X8_restore u r u5 u6 (i3 s) = if u6 s = 0 then f_X8_restore_b29 u r u5 u6 (i3 s) (2 : Int32) else f_X8_restore_b29 u r u5 u6 (i3 s) (0 : Int32) := by
      unfold f_X8_restore
      rw [hin, Option.bind_some, decide_eq_true hok, if_neg bfT, if_neg (i3_in (by omega) (by decide)), i3_nat (by omega)]
    have R1 : ∀ n, f_X8_leftOf (cpR u5 r (107 * s) 0 107) = some (i3 n) → f_X8_restore_b29 u r u5 u6 (i3 s) (0 : Int32) = some (i3 n, mA (mK u 0) 0, cpR u5 r (107 * s) 0 107) := fun n hn => by
      unfold f_X8_restore_b29
      rw [refuse_no u, Option.bind_some, if_pos bfF, em, hcp, Option.bind_some, hn, Option.bind_some]
    have good : ∀ (w8 : TBv) (w9 : Fn), TabX w8 w9 (fun t => u5 (107 * s + t)) → ¬ u6 s = 0 → f_X7_restore tb su vh v7 v8 v9 v10 v11 v12 (i3 s) = (f_X4_copyFrom tb su w8 w9).bind (fun q819 => (f_X0_clear vh).bind (fun q820 => (f_X3_count q819.2).bind (fun q821 => some (.inl (q821, q819.1, q819.2, q820))))) → ∃ k tb' su' vh' w x u' r', f_W_restore tb su vh v7 v8 v9 v10 v11 v12 vo (i3 s) = some (k, tb', su', vh', w) ∧ f_X8_restore u r u5 u6 (i3 s) = some (x, u', r') ∧ uA u' u k ∧ (k = 0 → w 0 = x.toInt64) ∧ TabX tb' su' r' ∧ HisR vh' vr u'.2.2.1 d := by
      intro w8 w9 hw hu6 hC
      obtain ⟨tb', su', k1, k2⟩ := cpT hw tb su
      have k3 : TabX tb' su' (cpR u5 r (107 * s) 0 107) := k2.ext (fun t ht => by
        unfold cpR
        rw [if_pos (by omega)]
        rfl)
      obtain ⟨n, z1, z2⟩ := cnt_both k3
      refine ⟨0, tb', su', (0, 0), _, i3 n, mA (mK u 0) 0, _, ?_, ?_, uA_A u 0, fun _ => vo_0 vo _, k3, his_clear vr d⟩
      · unfold f_W_restore
        rw [hC, k1, Option.bind_some]
        unfold f_X0_clear
        rw [Option.bind_some, z1]
        rfl
      · rw [R0, if_neg hu6]
        exact R1 n z2
    have empty : u6 s = 0 → f_X7_restore tb su vh v7 v8 v9 v10 v11 v12 (i3 s) = some (.inr (2, tb, su, vh)) → ∃ k tb' su' vh' w x u' r', f_W_restore tb su vh v7 v8 v9 v10 v11 v12 vo (i3 s) = some (k, tb', su', vh', w) ∧ f_X8_restore u r u5 u6 (i3 s) = some (x, u', r') ∧ uA u' u k ∧ (k = 0 → w 0 = x.toInt64) ∧ TabX tb' su' r' ∧ HisR vh' vr u'.2.2.1 d := by
      intro hu6 hC
      refine ⟨2, tb, su, vh, vo, 0, mK u 2, r, ?_, ?_, uA_K u 2, fun z => absurd z (by decide), h, hH⟩
      · unfold f_W_restore
        rw [hC]
        rfl
      · rw [R0, if_pos hu6]
        exact bad 2 (by decide)
    have hcase : s = 0 ∨ s = 1 := by omega
    rcases hcase with rfl | rfl
    · have C0 : f_X7_restore tb su vh v7 v8 v9 v10 v11 v12 (i3 0) = f_X7_restore_b35v1 tb su vh v7 v8 v9 v10 v11 v12 := by
        unfold f_X7_restore
        rw [if_neg (i3_nn (by omega)), if_pos clt, if_pos (show i3 0 = 0 from rfl)]
      by_cases hv : v7 = 0
      · refine empty (s1.mp hv) ?_
        rw [C0]
        unfold f_X7_restore_b35v1
        exact if_pos hv
      · refine good v8 v9 ((s2 hv).ext (fun t _ => by
          exact congrArg u5 (show 107 * 0 + t = t by omega))) (fun z => hv (s1.mpr z)) ?_
        rw [C0]
        unfold f_X7_restore_b35v1
        exact if_neg hv
    · have C0 : f_X7_restore tb su vh v7 v8 v9 v10 v11 v12 (i3 1) = f_X7_restore_b35 tb su vh v7 v8 v9 v10 v11 v12 := by
        unfold f_X7_restore
        rw [if_neg (i3_nn (by omega)), if_pos clt, if_neg (show ¬ i3 1 = 0 by decide)]
      by_cases hv : v10 = 0
      · refine empty (s3.mp hv) ?_
        rw [C0]
        unfold f_X7_restore_b35
        exact if_pos hv
      · refine good v11 v12 (s4 hv) (fun z => hv (s3.mpr z)) ?_
        rw [C0]
        unfold f_X7_restore_b35
        exact if_neg hv
  · refine ⟨1, tb, su, vh, vo, 0, mK u 1, r, ?_, ?_, uA_K u 1, fun z => absurd z (by decide), h, hH⟩
    · unfold f_W_restore f_X7_restore f_X7_restore_b9
      by_cases hneg : p1 < 0
      · rw [if_pos hneg]
        rfl
      · have h0 : (0 : Int32) ≤ p1 := (nn_iff _).mp hneg
        obtain ⟨q, hq, rfl⟩ := i3_of h0
        rw [if_neg hneg, if_neg (fun z => hok ⟨h0, (i3_le (b := 1) hq (by decide)).mpr (by
          have := (i3_lt (b := 2) hq (by decide)).mp z
          omega)⟩)]
        rfl
    · unfold f_X8_restore
      rw [hin, Option.bind_some, decide_eq_false hok, if_pos bfF]
      exact bad 1 (by decide)
