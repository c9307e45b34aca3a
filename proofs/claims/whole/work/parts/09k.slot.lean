/-! ===== slots and text, by both ===== -/
def SloR (v7 : Int32) (v8 : TBv) (v9 : Fn) (v10 : Int32) (v11 : TBv) (v12 : Fn) (u5 u6 : Fn) : Prop := ((v7 = 0) ↔ (u6 0 = 0)) ∧ (¬ v7 = 0 → TabX v8 v9 (fun t => u5 t)) ∧ ((v10 = 0) ↔ (u6 1 = 0)) ∧ (¬ v10 = 0 → TabX v11 v12 (fun t => u5 (107 + t)))
def TxtR (x : TXv) (u : MOv) (v : Fn) : Prop := ∃ n, x.1 = i3 n ∧ u.2.1 = i3 n ∧ TxR n (tS x) v
theorem TxtR.to {x x' : TXv} {u u' : MOv} {v : Fn} (h : TxtR x u v) (h1 : x'.1 = x.1) (h2 : tS x' = tS x) (h3 : u'.2.1 = u.2.1) : TxtR x' u' v := by
  obtain ⟨n, a, b, c⟩ := h
  exact ⟨n, h1.trans a, h3.trans b, by rw [h2]; exact c⟩
theorem nar_1 : ¬ vp_nar .boolean (1 : Int32) = 0 := by decide
theorem nar_0 : vp_nar .boolean (0 : Int32) = 0 := by decide
theorem nar_ch : ∀ k, k < 256 → vp_nar .char (((i3 k).toUInt32 % 65536).toInt32) = i3 k := by decide +kernel
theorem cnt_both {tb : TBv} {su r : Fn} (h : TabX tb su r) : ∃ n, f_X3_count su = some (i3 n) ∧ f_X8_leftOf r = some (i3 n) := by
  obtain ⟨c, m, h⟩ := h
  obtain ⟨n, -, z1, z2, -⟩ := left_both h
  exact ⟨n, z1, z2⟩
theorem save_eq {tb : TBv} {su r u5 u6 : Fn} (h : TabX tb su r) {v7 : Int32} {v8 : TBv} {v9 : Fn} {v10 : Int32} {v11 : TBv} {v12 : Fn} (hS : SloR v7 v8 v9 v10 v11 v12 u5 u6) (u : MOv) (vo : FnL) (p1 : Int32) : ∃ k v7' v8' v9' v10' v11' v12' w x u' u5' u6', f_L_save tb su v7 v8 v9 v10 v11 v12 vo p1 = some (k, v7', v8', v9', v10', v11', v12', w) ∧ f_X8_save u r u5 u6 p1 = some (x, u', u5', u6') ∧ uK u' u k ∧ (k = 0 → w 0 = x.toInt64) ∧ SloR v7' v8' v9' v10' v11' v12' u5' u6' := by
  have hin : f_X8_in p1.toInt64 (0 : Int64) (1 : Int64) = _ := in32 p1 0 1
  obtain ⟨s1, s2, s3, s4⟩ := hS
  obtain ⟨n, z1, z2⟩ := cnt_both h
  by_cases hok : (0 : Int32) ≤ p1 ∧ p1 ≤ (1 : Int32)
  · obtain ⟨s, hs, rfl⟩ := rng_of (n := 1) (by decide) hok
    have clt : i3 s < (2 : Int32) := (i3_lt (b := 2) (by omega) (by decide)).mpr (by omega)
    have em : (107 : Int32) * i3 s = i3 (107 * s) := i3_mul 107 s
    have hcp : f_X8_copyState 107 214 r u5 (0 : Int32) (i3 (107 * s)) = _ := copyR_eq (p := 0) (q := 107 * s) (by decide) (by omega) (by decide) (by decide)
    have R1 : f_X8_save u r u5 u6 (i3 s) = some (i3 n, mK u 0, cpR r u5 0 (107 * s) 107, upd u6 s (vp_nar .boolean (1 : Int32))) := by
      unfold f_X8_save f_X8_save_b16
      rw [hin, Option.bind_some, decide_eq_true hok, if_neg bfT, refuse_no' u, Option.bind_some, if_pos bfF, em, hcp, Option.bind_some, if_neg (i3_in (by omega) (by decide)), z2, Option.bind_some, i3_nat (by omega)]
    have hcase : s = 0 ∨ s = 1 := by omega
    rcases hcase with rfl | rfl
    · obtain ⟨tb', su', k1, k2⟩ := cpT h v8 v9
      refine ⟨0, 1, tb', su', v10, v11, v12, _, i3 n, mK u 0, _, _, ?_, R1, uK_mK u 0, fun _ => vo_0 vo _, ?_, fun _ => ?_, ?_, fun hv => ?_⟩
      · unfold f_L_save f_X7_save f_X7_save_b35v1
        rw [if_neg (i3_nn (by omega)), if_pos clt, if_pos (show i3 0 = 0 from rfl), k1, Option.bind_some, z1]
        rfl
      · rw [upd_at]
        exact ⟨fun z => absurd z (by decide), fun z => absurd z nar_1⟩
      · refine k2.ext (fun t ht => ?_)
        unfold cpR
        rw [if_pos (by omega)]
        exact congrArg r (by omega)
      · rw [upd_ne (by decide)]
        exact s3
      · refine (s4 hv).ext (fun t ht => ?_)
        unfold cpR
        rw [if_neg (by omega)]
    · obtain ⟨tb', su', k1, k2⟩ := cpT h v11 v12
      refine ⟨0, v7, v8, v9, 1, tb', su', _, i3 n, mK u 0, _, _, ?_, R1, uK_mK u 0, fun _ => vo_0 vo _, ?_, fun hv => ?_, ?_, fun _ => ?_⟩
      · unfold f_L_save f_X7_save f_X7_save_b35
        rw [if_neg (i3_nn (by omega)), if_pos clt, if_neg (show ¬ i3 1 = 0 by decide), k1, Option.bind_some, z1]
        rfl
      · rw [upd_ne (by decide)]
        exact s1
      · refine (s2 hv).ext (fun t ht => ?_)
        unfold cpR
        rw [if_neg (by omega)]
      · rw [upd_at]
        exact ⟨fun z => absurd z (by decide), fun z => absurd z nar_1⟩
      · refine k2.ext (fun t ht => ?_)
        unfold cpR
        rw [if_pos (by omega)]
        exact congrArg r (by omega)
  · refine ⟨1, v7, v8, v9, v10, v11, v12, vo, 0, mK u 1, u5, u6, ?_, ?_, uK_mK u 1, fun z => absurd z (by decide), s1, s2, s3, s4⟩
    · unfold f_L_save f_X7_save f_X7_save_b9
      by_cases hneg : p1 < 0
      · rw [if_pos hneg]
        rfl
      · have h0 : (0 : Int32) ≤ p1 := (nn_iff _).mp hneg
        obtain ⟨q, hq, rfl⟩ := i3_of h0
        rw [if_neg hneg, if_neg (fun z => hok ⟨h0, (i3_le (b := 1) hq (by decide)).mpr (by
          have := (i3_lt (b := 2) hq (by decide)).mp z
          omega)⟩)]
        rfl
    · unfold f_X8_save f_X8_save_b16
      rw [hin, Option.bind_some, decide_eq_false hok, if_pos bfF, refuseB, Option.bind_some, if_neg bfT]
      rfl
theorem restore_eq {tb : TBv} {su r u5 u6 d : Fn} (h : TabX tb su r) {v7 : Int32} {v8 : TBv} {v9 : Fn} {v10 : Int32} {v11 : TBv} {v12 : Fn} {vh : HIv} {vr : HRv} {u : MOv} (hS : SloR v7 v8 v9 v10 v11 v12 u5 u6) (hH : HisR vh vr u.2.2.1 d) (vo : FnL) (p1 : Int32) : ∃ k tb' su' vh' w x u' r', f_L_restore tb su vh v7 v8 v9 v10 v11 v12 vo p1 = some (k, tb', su', vh', w) ∧ f_X8_restore u r u5 u6 p1 = some (x, u', r') ∧ uA u' u k ∧ (k = 0 → w 0 = x.toInt64) ∧ TabX tb' su' r' ∧ HisR vh' vr u'.2.2.1 d := by
  have hin : f_X8_in p1.toInt64 (0 : Int64) (1 : Int64) = _ := in32 p1 0 1
  obtain ⟨s1, s2, s3, s4⟩ := hS
  have bad : ∀ k : Int32, ¬ k ≤ 0 → f_X8_restore_b29 u r u5 u6 p1 k = some ((0 : Int32), mK u k, r) := fun k hk => by
    unfold f_X8_restore_b29
    rw [refuse_yes u hk, Option.bind_some, if_neg bfT]
  by_cases hok : (0 : Int32) ≤ p1 ∧ p1 ≤ (1 : Int32)
  · obtain ⟨s, hs, rfl⟩ := rng_of (n := 1) (by decide) hok
    have clt : i3 s < (2 : Int32) := (i3_lt (b := 2) (by omega) (by decide)).mpr (by omega)
    have em : (107 : Int32) * i3 s = i3 (107 * s) := i3_mul 107 s
    have hcp : f_X8_copyState 214 107 u5 r (i3 (107 * s)) (0 : Int32) = _ := copyR_eq (p := 107 * s) (q := 0) (by omega) (by decide) (by decide) (by decide)
    have R0 : f_X8_restore u r u5 u6 (i3 s) = if u6 s = 0 then f_X8_restore_b29 u r u5 u6 (i3 s) (2 : Int32) else f_X8_restore_b29 u r u5 u6 (i3 s) (0 : Int32) := by
      unfold f_X8_restore
      rw [hin, Option.bind_some, decide_eq_true hok, if_neg bfT, if_neg (i3_in (by omega) (by decide)), i3_nat (by omega)]
    have R1 : ∀ n, f_X8_leftOf (cpR u5 r (107 * s) 0 107) = some (i3 n) → f_X8_restore_b29 u r u5 u6 (i3 s) (0 : Int32) = some (i3 n, mA (mK u 0) 0, cpR u5 r (107 * s) 0 107) := fun n hn => by
      unfold f_X8_restore_b29
      rw [refuse_no u, Option.bind_some, if_pos bfF, em, hcp, Option.bind_some, hn, Option.bind_some]
    have good : ∀ (w8 : TBv) (w9 : Fn), TabX w8 w9 (fun t => u5 (107 * s + t)) → ¬ u6 s = 0 → f_X7_restore tb su vh v7 v8 v9 v10 v11 v12 (i3 s) = (f_X4_copyFrom tb su w8 w9).bind (fun q819 => (f_X0_clear vh).bind (fun q820 => (f_X3_count q819.2).bind (fun q821 => some (.inl (q821, q819.1, q819.2, q820))))) → ∃ k tb' su' vh' w x u' r', f_L_restore tb su vh v7 v8 v9 v10 v11 v12 vo (i3 s) = some (k, tb', su', vh', w) ∧ f_X8_restore u r u5 u6 (i3 s) = some (x, u', r') ∧ uA u' u k ∧ (k = 0 → w 0 = x.toInt64) ∧ TabX tb' su' r' ∧ HisR vh' vr u'.2.2.1 d := by
      intro w8 w9 hw hu6 hC
      obtain ⟨tb', su', k1, k2⟩ := cpT hw tb su
      have k3 : TabX tb' su' (cpR u5 r (107 * s) 0 107) := k2.ext (fun t ht => by
        unfold cpR
        rw [if_pos (by omega)]
        rfl)
      obtain ⟨n, z1, z2⟩ := cnt_both k3
      refine ⟨0, tb', su', (0, 0), _, i3 n, mA (mK u 0) 0, _, ?_, ?_, uA_A u 0, fun _ => vo_0 vo _, k3, his_clear vr d⟩
      · unfold f_L_restore
        rw [hC, k1, Option.bind_some]
        unfold f_X0_clear
        rw [Option.bind_some, z1]
        rfl
      · rw [R0, if_neg hu6]
        exact R1 n z2
    have empty : u6 s = 0 → f_X7_restore tb su vh v7 v8 v9 v10 v11 v12 (i3 s) = some (.inr (2, tb, su, vh)) → ∃ k tb' su' vh' w x u' r', f_L_restore tb su vh v7 v8 v9 v10 v11 v12 vo (i3 s) = some (k, tb', su', vh', w) ∧ f_X8_restore u r u5 u6 (i3 s) = some (x, u', r') ∧ uA u' u k ∧ (k = 0 → w 0 = x.toInt64) ∧ TabX tb' su' r' ∧ HisR vh' vr u'.2.2.1 d := by
      intro hu6 hC
      refine ⟨2, tb, su, vh, vo, 0, mK u 2, r, ?_, ?_, uA_K u 2, fun z => absurd z (by decide), h, hH⟩
      · unfold f_L_restore
        rw [hC]
        rfl
      · rw [R0, if_pos hu6]
        exact bad 2 (by decide)
    have hcase : s = 0 ∨ s = 1 := by omega
    rcases hcase with rfl | rfl
    · have C0 : f_X7_restore tb su vh v7 v8 v9 v10 v11 v12 (i3 0) = f_X7_restore_b35v1 tb su vh v7 v8 v9 v10 v11 v12 := by
        unfold f_X7_restore
        rw [if_neg (i3_nn (by omega)), if_pos clt, if_pos (show i3 0 = 0 from rfl)]
      by_cases hv : v7 = 0
      · refine empty (s1.mp hv) ?_
        rw [C0]
        unfold f_X7_restore_b35v1
        exact if_pos hv
      · refine good v8 v9 ((s2 hv).ext (fun t _ => by
          exact congrArg u5 (show 107 * 0 + t = t by omega))) (fun z => hv (s1.mpr z)) ?_
        rw [C0]
        unfold f_X7_restore_b35v1
        exact if_neg hv
    · have C0 : f_X7_restore tb su vh v7 v8 v9 v10 v11 v12 (i3 1) = f_X7_restore_b35 tb su vh v7 v8 v9 v10 v11 v12 := by
        unfold f_X7_restore
        rw [if_neg (i3_nn (by omega)), if_pos clt, if_neg (show ¬ i3 1 = 0 by decide)]
      by_cases hv : v10 = 0
      · refine empty (s3.mp hv) ?_
        rw [C0]
        unfold f_X7_restore_b35
        exact if_pos hv
      · refine good v11 v12 (s4 hv) (fun z => hv (s3.mpr z)) ?_
        rw [C0]
        unfold f_X7_restore_b35
        exact if_neg hv
  · refine ⟨1, tb, su, vh, vo, 0, mK u 1, r, ?_, ?_, uA_K u 1, fun z => absurd z (by decide), h, hH⟩
    · unfold f_L_restore f_X7_restore f_X7_restore_b9
      by_cases hneg : p1 < 0
      · rw [if_pos hneg]
        rfl
      · have h0 : (0 : Int32) ≤ p1 := (nn_iff _).mp hneg
        obtain ⟨q, hq, rfl⟩ := i3_of h0
        rw [if_neg hneg, if_neg (fun z => hok ⟨h0, (i3_le (b := 1) hq (by decide)).mpr (by
          have := (i3_lt (b := 2) hq (by decide)).mp z
          omega)⟩)]
        rfl
    · unfold f_X8_restore
      rw [hin, Option.bind_some, decide_eq_false hok, if_pos bfF]
      exact bad 1 (by decide)
theorem append_eq {x : TXv} {u : MOv} {v : Fn} (h : TxtR x u v) (vo : FnL) (p1 : Int32) : ∃ k x' w b u' v', f_L_append x vo p1 = some (k, x', w) ∧ f_X8_append u v p1 = some (b, u', v') ∧ u'.1 = k ∧ u'.2.2.1 = u.2.2.1 ∧ (k = 0 → w 0 = b.toInt64) ∧ TxtR x' u' v' := by
  have hX := h
  obtain ⟨n, h1, h2, h3, h4⟩ := h
  have hin : f_X8_in p1.toInt64 (0 : Int64) (255 : Int64) = _ := in32 p1 0 255
  have bad : ∀ k : Int32, ¬ k ≤ 0 → f_X8_append_b31 u v p1 k = some ((0 : Int32), mK u k, v) := fun k hk => by
    unfold f_X8_append_b31
    rw [refuse_yes u hk, Option.bind_some, if_neg bfT]
  by_cases hok : (0 : Int32) ≤ p1 ∧ p1 ≤ (255 : Int32)
  · obtain ⟨q, hq, rfl⟩ := rng_of (n := 255) (by decide) hok
    have e120 : (i3 n = (120 : Int32)) ↔ n = 120 := i3_eq (b := 120) (by omega) (by decide)
    have l120 : (i3 n < (120 : Int32)) ↔ n < 120 := i3_lt (b := 120) (by omega) (by decide)
    have R0 : f_X8_append u v (i3 q) = if i3 n = (120 : Int32) then f_X8_append_b31 u v (i3 q) (2 : Int32) else f_X8_append_b31 u v (i3 q) (0 : Int32) := by
      unfold f_X8_append
      rw [hin, Option.bind_some, decide_eq_true hok, if_neg bfT, h2]
    have C0 : f_X7_append x (i3 q) = if i3 n < (120 : Int32) then (f_X6_add x (((i3 q).toUInt32 % 65536).toInt32)).bind (fun q363 => some (.inl (q363.1, q363))) else some (.inr (2, x)) := by
      unfold f_X7_append
      rw [if_neg (i3_nn (by omega)), if_pos hok.2, h1]
    by_cases hn : n = 120
    · refine ⟨2, x, vo, 0, mK u 2, v, ?_, ?_, rfl, rfl, fun z => absurd z (by decide), hX⟩
      · unfold f_L_append
        rw [C0, if_neg (fun z => by have := l120.mp z; omega)]
        rfl
      · rw [R0, if_pos (e120.mpr hn)]
        exact bad 2 (by decide)
    · have e1 : i3 n + (1 : Int32) = i3 (n + 1) := i3_add n 1
      have A1 : f_X6_add x (((i3 q).toUInt32 % 65536).toInt32) = some (i3 (n + 1), x.2.1, x.2.2.1, x.2.2.2.1, x.2.2.2.2.1, x.2.2.2.2.2.1, x.2.2.2.2.2.2.1, x.2.2.2.2.2.2.2.1, upd (tS x) n (i3 q)) := by
        unfold f_X6_add
        rw [h1, if_neg (i3_nn (by omega)), if_neg (by show ¬ i3 120 ≤ i3 n; rw [i3_le (by decide) (by omega)]; omega), if_neg (i3_in (by omega) (by decide)), nar_ch q (by omega), i3_nat (by omega), e1]
      refine ⟨0, (i3 (n + 1), x.2.1, x.2.2.1, x.2.2.2.1, x.2.2.2.2.1, x.2.2.2.2.2.1, x.2.2.2.2.2.2.1, x.2.2.2.2.2.2.2.1, upd (tS x) n (i3 q)), _, i3 (n + 1), (0, i3 (n + 1), u.2.2.1, u.2.2.2.1, u.2.2.2.2.1, u.2.2.2.2.2), upd v n (i3 q), ?_, ?_, rfl, rfl, fun _ => vo_0 vo _, n + 1, rfl, rfl, by omega, fun i hi => ?_⟩
      · unfold f_L_append
        rw [C0, if_pos (l120.mpr (by omega)), A1]
        rfl
      · rw [R0, if_neg (fun z => hn (e120.mp z))]
        unfold f_X8_append_b31
        rw [refuse_no u, Option.bind_some, if_pos bfF]
        show (if u.2.1 < 0 ∨ 120 ≤ u.2.1.toNatClampNeg then none else some (u.2.1 + (1 : Int32), ((0 : Int32), u.2.1 + (1 : Int32), u.2.2.1, u.2.2.2.1, u.2.2.2.2.1, u.2.2.2.2.2), upd v u.2.1.toNatClampNeg (i3 q)) : Option (Int32 × MOv × Fn)) = _
        rw [h2, if_neg (i3_in (by omega) (by decide)), i3_nat (by omega), e1]
      · show upd v n (i3 q) i = upd (tS x) n (i3 q) i ∧ ∃ k, k < 256 ∧ upd (tS x) n (i3 q) i = i3 k
        by_cases hin' : i = n
        · subst hin'
          rw [upd_at, upd_at]
          exact ⟨rfl, q, by omega, rfl⟩
        · rw [upd_ne hin', upd_ne hin']
          exact h4 i (by omega)
  · refine ⟨1, x, vo, 0, mK u 1, v, ?_, ?_, rfl, rfl, fun z => absurd z (by decide), hX⟩
    · unfold f_L_append f_X7_append f_X7_append_b11
      by_cases hneg : p1 < 0
      · rw [if_pos hneg]
        rfl
      · rw [if_neg hneg, if_neg (fun z => hok ⟨(nn_iff _).mp hneg, z⟩)]
        rfl
    · unfold f_X8_append
      rw [hin, Option.bind_some, decide_eq_false hok, if_pos bfF]
      exact bad 1 (by decide)
theorem clear_both {x : TXv} {u : MOv} {v : Fn} (h : TxtR x u v) : ∃ b x' u', f_X7_clearText x = some (b, x') ∧ f_X8_clearText u = some (b, u') ∧ u'.2.2.1 = u.2.2.1 ∧ TxtR x' u' v := by
  obtain ⟨n, h1, h2, h3, h4⟩ := h
  refine ⟨x.1, _, (0, 0, u.2.2.1, u.2.2.2.1, u.2.2.2.2.1, u.2.2.2.2.2), rfl, ?_, rfl, 0, rfl, rfl, by decide, fun i hi => absurd hi (Nat.not_lt_zero i)⟩
  unfold f_X8_clearText
  rw [h1, h2]
theorem error_both {x : TXv} {u : MOv} {v : Fn} (h : TxtR x u v) (u3 : Fn) : ∃ b x' u' u3', f_X7_errorPosition x = some (b, x') ∧ f_X8_errorPosition u v u3 = some (b, u', u3') ∧ u'.2.2.1 = u.2.2.1 ∧ TxtR x' u' v := by
  have hX := h
  obtain ⟨n, h1, h2, h3⟩ := h
  obtain ⟨pos, x', u', w', k1, k2, k3, k4, k5⟩ := text_E (u := mK u 0) (w := u3) h1 rfl h3 h2
  refine ⟨pos, x', u', w', k1, ?_, k5.2.2, hX.to (k3.trans h1.symm) k4 k5.2.1⟩
  unfold f_X8_errorPosition
  show (f_X8_readText (mK u 0) v u3).bind _ = _
  rw [k2]
  rfl
theorem load_eq {x : TXv} {tb : TBv} {su u2 u5 d : Fn} {u : MOv} {v : Fn} {v7 : Int32} {v8 : TBv} {v9 : Fn} {v10 : Int32} {v11 : TBv} {v12 : Fn} {vh : HIv} {vr : HRv} {u6 : Fn} (h : TxtR x u v) (hT : TabX tb su u2) (hS : SloR v7 v8 v9 v10 v11 v12 u5 u6) (hH : HisR vh vr u.2.2.1 d) (sc : SCv) (u3 : Fn) (vo : FnL) : ∃ k x' tb' su' sc' vh' v7' v10' w b u' u2' u3' u6', f_L_load x tb su sc vh v7 v10 vo = some (k, x', tb', su', sc', vh', v7', v10', w) ∧ f_X8_load u v u2 u3 u6 = some (b, u', u2', u3', u6') ∧ u'.1 = k ∧ (k = 0 → w 0 = b.toInt64) ∧ TxtR x' u' v ∧ TabX tb' su' u2' ∧ SloR v7' v8 v9 v10' v11 v12 u5 u6' ∧ HisR vh' vr u'.2.2.1 d := by
  have hX := h
  obtain ⟨n, h1, h2, h3⟩ := h
  obtain ⟨pos, x', u', w', k1, k2, k3, k4, k5⟩ := text_E (u := u) (w := u3) h1 rfl h3 h2
  by_cases hp : pos = (-1 : Int32)
  · subst hp
    obtain ⟨t0, x1, t1, e1, l1, l2, l3, l4, l5, l6, l7, l8⟩ := text_L (x := x') k3 k4 h3 h2 k2 tb su sc (0, 0) 0 0
    obtain ⟨c1, c2⟩ := cp107 l8 u2
    refine ⟨0, e1.2.1, e1.2.2.1, e1.2.2.2.1, e1.2.2.2.2, (0, 0), 0, 0, _, e1.1, mA (mK u' 0) 0, cpR w' u2 0 0 107, w', upd (upd u6 0 (vp_nar .boolean (0 : Int32))) 1 (vp_nar .boolean (0 : Int32)), ?_, ?_, rfl, fun _ => vo_0 vo _, ?_, c2, ?_, his_clear vr d⟩
    · unfold f_L_load f_X7_load
      rw [k1, Option.bind_some, if_pos rfl]
      unfold f_X0_clear
      rw [Option.bind_some, l1, Option.bind_some]
      show ((((f_X6_readHead x').bind _ : Option ((Int32 × TXv × TBv × Fn × SCv × HIv × Int32 × Int32) ⊕ (Nat × TXv × TBv × Fn × SCv × HIv × Int32 × Int32)))).bind _ : Option _) = _
      rw [l2, Option.bind_some, l3, Option.bind_some, l4]
      rfl
    · unfold f_X8_load f_X8_load_b18
      rw [k2, Option.bind_some, if_pos rfl]
      show (f_X8_refused u' (b2i false)).bind _ = _
      rw [refuse_no' u', Option.bind_some, if_pos bfF]
      show (f_X8_copyState 107 107 w' u2 (0 : Int32) (0 : Int32)).bind _ = _
      rw [c1, Option.bind_some, l5]
      rfl
    · exact ⟨n, l6, k5.2.1.trans h2, by rw [l7]; exact h3⟩
    · refine ⟨⟨fun _ => ?_, fun _ => rfl⟩, fun z => absurd rfl z, ⟨fun _ => ?_, fun _ => rfl⟩, fun z => absurd rfl z⟩
      · rw [upd_ne (by decide), upd_at]
        exact nar_0
      · rw [upd_at]
        exact nar_0
  · refine ⟨1, x', tb, su, sc, vh, v7, v10, vo, 0, mK u' 1, u2, w', u6, ?_, ?_, rfl, fun z => absurd z (by decide), ?_, hT, hS, ?_⟩
    · unfold f_L_load f_X7_load
      rw [k1, Option.bind_some, if_neg hp]
      rfl
    · unfold f_X8_load f_X8_load_b18
      rw [k2, Option.bind_some, if_neg hp]
      show (f_X8_refused u' (b2i true)).bind _ = _
      rw [refuseB, Option.bind_some, if_neg bfT]
      rfl
    · exact hX.to (k3.trans h1.symm) k4 k5.2.1
    · show HisR vh vr u'.2.2.1 d
      rw [k5.2.2]
      exact hH
