/-! ===== each case of the law keeps the relation ===== -/
def RelZ (z : lawS) : Prop := TxtR z.2.1 z.2.2.2.2.2.2.2.2.2.2.2.2.2.2.2.2.2.1 z.2.2.2.2.2.2.2.2.2.2.2.2.2.2.2.2.2.2.1 ∧ TabX z.2.2.1 z.2.2.2.1 z.2.2.2.2.2.2.2.2.2.2.2.2.2.2.2.2.2.2.2.1 ∧ HisR z.2.2.2.2.2.2.2.2.1 z.2.2.2.2.2.2.2.2.2.1 z.2.2.2.2.2.2.2.2.2.2.2.2.2.2.2.2.2.1.2.2.1 z.2.2.2.2.2.2.2.2.2.2.2.2.2.2.2.2.2.2.2.2.2.1 ∧ SloR z.2.2.2.2.2.2.2.2.2.2.1 z.2.2.2.2.2.2.2.2.2.2.2.1 z.2.2.2.2.2.2.2.2.2.2.2.2.1 z.2.2.2.2.2.2.2.2.2.2.2.2.2.1 z.2.2.2.2.2.2.2.2.2.2.2.2.2.2.1 z.2.2.2.2.2.2.2.2.2.2.2.2.2.2.2.1 z.2.2.2.2.2.2.2.2.2.2.2.2.2.2.2.2.2.2.2.2.2.2.1 z.2.2.2.2.2.2.2.2.2.2.2.2.2.2.2.2.2.2.2.2.2.2.2.1
theorem HisR.to {vh : HIv} {vr : HRv} {a a' : Int32} {d : Fn} (h : HisR vh vr a d) (e : a' = a) : HisR vh vr a' d := e ▸ h
theorem thr_tail {α : Type} {k : Int32} {u' : MOv} {w : FnL} {b : Int32} (o : Option α) (hk : u'.1 = k) (hw : k = 0 → w 0 = b.toInt64) : (f_X8_thrown u').bind (fun q => if q = k then if k = 0 then if lg_cmp (w (0 : Int32).toNatClampNeg) (b.toInt64) = 0 then o else none else o else none) = o := by
  have n0 : (0 : Int32).toNatClampNeg = 0 := by decide
  unfold f_X8_thrown
  rw [Option.bind_some, hk, if_pos rfl, n0]
  by_cases h : k = 0
  · rw [if_pos h, if_pos ((cmp_zero _ _).mpr (hw h))]
  · rw [if_neg h]
theorem eq_tail {α : Type} {a b : Int32} (o : Option α) (h : a = b) : (if a = b then o else none) = o := if_pos h
theorem st_1457 (L : Nat) (xs : Fn) (v0 : TXv) (v1 : TBv) (v2 : Fn) (v3 : SCv) (v4 : TBv) (v5 : Fn) (v6 : SCv) (vh : HIv) (vr : HRv) (v7 : Int32) (v8 : TBv) (v9 : Fn) (v10 : Int32) (v11 : TBv) (v12 : Fn) (v13 : TAv) (v14 : Fn) (v15 : Fn) (u0 : MOv) (u1 : Fn) (u2 : Fn) (u3 : Fn) (u4 : Fn) (u5 : Fn) (u6 : Fn) (u7 : Fn) (u8 : Fn) (vo : FnL) (x4 : Int32) (R1 : TxtR v0 u0 u1) (R2 : TabX v1 v2 u2) (R3 : HisR vh vr u0.2.2.1 u4) (R4 : SloR v7 v8 v9 v10 v11 v12 u5 u6) (h1 : ¬ ((x4 + (1 : Int32)) < 0 ∨ L ≤ (x4 + (1 : Int32)).toNatClampNeg)) : ∃ z : lawS, f_L_law_B23_b1457 L xs v0 v1 v2 v3 v4 v5 v6 vh vr v7 v8 v9 v10 v11 v12 v13 v14 v15 u0 u1 u2 u3 u4 u5 u6 u7 u8 vo x4 = some (.inl z) ∧ z.1 = x4 + (4 : Int32) ∧ RelZ z := by
  obtain ⟨k, tb', su', vh', w, b, u', r', E1, E2, hu, hw, T, HH⟩ := restore_eq R2 R4 R3 vo (xs (x4 + (1 : Int32)).toNatClampNeg)
  unfold f_L_law_B23_b1457
  rw [if_neg h1, E1, Option.bind_some, if_neg h1, E2, Option.bind_some]
  exact ⟨_, thr_tail _ hu.1 hw, rfl, R1.to rfl rfl hu.2, T, HH, R4⟩
theorem st_1401 (L : Nat) (xs : Fn) (v0 : TXv) (v1 : TBv) (v2 : Fn) (v3 : SCv) (v4 : TBv) (v5 : Fn) (v6 : SCv) (vh : HIv) (vr : HRv) (v7 : Int32) (v8 : TBv) (v9 : Fn) (v10 : Int32) (v11 : TBv) (v12 : Fn) (v13 : TAv) (v14 : Fn) (v15 : Fn) (u0 : MOv) (u1 : Fn) (u2 : Fn) (u3 : Fn) (u4 : Fn) (u5 : Fn) (u6 : Fn) (u7 : Fn) (u8 : Fn) (vo : FnL) (x4 : Int32) (R1 : TxtR v0 u0 u1) (R2 : TabX v1 v2 u2) (R3 : HisR vh vr u0.2.2.1 u4) (R4 : SloR v7 v8 v9 v10 v11 v12 u5 u6) (h1 : ¬ ((x4 + (1 : Int32)) < 0 ∨ L ≤ (x4 + (1 : Int32)).toNatClampNeg)) : ∃ z : lawS, f_L_law_B23_b1401 L xs v0 v1 v2 v3 v4 v5 v6 vh vr v7 v8 v9 v10 v11 v12 v13 v14 v15 u0 u1 u2 u3 u4 u5 u6 u7 u8 vo x4 = some (.inl z) ∧ z.1 = x4 + (4 : Int32) ∧ RelZ z := by
  obtain ⟨k, a7, a8, a9, a10, a11, a12, w, b, u', u5', u6', E1, E2, hu, hw, SS⟩ := save_eq R2 R4 u0 vo (xs (x4 + (1 : Int32)).toNatClampNeg)
  unfold f_L_law_B23_b1401
  rw [if_neg h1, E1, Option.bind_some, if_neg h1, E2, Option.bind_some]
  exact ⟨_, thr_tail _ hu.1 hw, rfl, R1.to rfl rfl hu.2.1, R2, R3.to hu.2.2, SS⟩
theorem st_1301 (L : Nat) (xs : Fn) (v0 : TXv) (v1 : TBv) (v2 : Fn) (v3 : SCv) (v4 : TBv) (v5 : Fn) (v6 : SCv) (vh : HIv) (vr : HRv) (v7 : Int32) (v8 : TBv) (v9 : Fn) (v10 : Int32) (v11 : TBv) (v12 : Fn) (v13 : TAv) (v14 : Fn) (v15 : Fn) (u0 : MOv) (u1 : Fn) (u2 : Fn) (u3 : Fn) (u4 : Fn) (u5 : Fn) (u6 : Fn) (u7 : Fn) (u8 : Fn) (vo : FnL) (x4 : Int32) (R1 : TxtR v0 u0 u1) (R2 : TabX v1 v2 u2) (R3 : HisR vh vr u0.2.2.1 u4) (R4 : SloR v7 v8 v9 v10 v11 v12 u5 u6) (h1 : ¬ ((x4 + (1 : Int32)) < 0 ∨ L ≤ (x4 + (1 : Int32)).toNatClampNeg)) (h2 : ¬ ((x4 + (2 : Int32)) < 0 ∨ L ≤ (x4 + (2 : Int32)).toNatClampNeg)) (h3 : ¬ ((x4 + (3 : Int32)) < 0 ∨ L ≤ (x4 + (3 : Int32)).toNatClampNeg)) : ∃ z : lawS, f_L_law_B23_b1301 L xs v0 v1 v2 v3 v4 v5 v6 vh vr v7 v8 v9 v10 v11 v12 v13 v14 v15 u0 u1 u2 u3 u4 u5 u6 u7 u8 vo x4 = some (.inl z) ∧ z.1 = x4 + (4 : Int32) ∧ RelZ z := by
  obtain ⟨k, t4, t5, t6, w, b, u3', E1, E2, hw⟩ := sim_eq R2 v4 v5 v6 vo u0 u3 ((((xs (x4 + (1 : Int32)).toNatClampNeg).toInt64) <<< ((32 : Int32).toInt64 &&& 63)) ||| (((xs (x4 + (2 : Int32)).toNatClampNeg).toInt64) &&& (4294967295 : Int64))) (xs (x4 + (3 : Int32)).toNatClampNeg)
  unfold f_L_law_B23_b1301
  rw [if_neg h1, if_neg h2, if_neg h3, E1, Option.bind_some, if_neg h1, if_neg h2, if_neg h3, E2, Option.bind_some]
  exact ⟨_, thr_tail _ rfl hw, rfl, R1.to rfl rfl rfl, R2, R3, R4⟩
theorem st_1201 (L : Nat) (xs : Fn) (v0 : TXv) (v1 : TBv) (v2 : Fn) (v3 : SCv) (v4 : TBv) (v5 : Fn) (v6 : SCv) (vh : HIv) (vr : HRv) (v7 : Int32) (v8 : TBv) (v9 : Fn) (v10 : Int32) (v11 : TBv) (v12 : Fn) (v13 : TAv) (v14 : Fn) (v15 : Fn) (u0 : MOv) (u1 : Fn) (u2 : Fn) (u3 : Fn) (u4 : Fn) (u5 : Fn) (u6 : Fn) (u7 : Fn) (u8 : Fn) (vo : FnL) (x4 : Int32) (R1 : TxtR v0 u0 u1) (R2 : TabX v1 v2 u2) (R3 : HisR vh vr u0.2.2.1 u4) (R4 : SloR v7 v8 v9 v10 v11 v12 u5 u6) (h1 : ¬ ((x4 + (1 : Int32)) < 0 ∨ L ≤ (x4 + (1 : Int32)).toNatClampNeg)) (h2 : ¬ ((x4 + (2 : Int32)) < 0 ∨ L ≤ (x4 + (2 : Int32)).toNatClampNeg)) (h3 : ¬ ((x4 + (3 : Int32)) < 0 ∨ L ≤ (x4 + (3 : Int32)).toNatClampNeg)) : ∃ z : lawS, f_L_law_B23_b1201 L xs v0 v1 v2 v3 v4 v5 v6 vh vr v7 v8 v9 v10 v11 v12 v13 v14 v15 u0 u1 u2 u3 u4 u5 u6 u7 u8 vo x4 = some (.inl z) ∧ z.1 = x4 + (4 : Int32) ∧ RelZ z := by
  obtain ⟨k, t4, t5, t6, w, b, u3', E1, E2, hw⟩ := runS_eq R2 v4 v5 v6 vo u0 u3 (xs (x4 + (1 : Int32)).toNatClampNeg) ((((xs (x4 + (2 : Int32)).toNatClampNeg).toInt64) <<< ((32 : Int32).toInt64 &&& 63)) ||| (((xs (x4 + (3 : Int32)).toNatClampNeg).toInt64) &&& (4294967295 : Int64)))
  unfold f_L_law_B23_b1201
  rw [if_neg h1, if_neg h2, if_neg h3, E1, Option.bind_some, if_neg h1, if_neg h2, if_neg h3, E2, Option.bind_some]
  exact ⟨_, thr_tail _ rfl hw, rfl, R1.to rfl rfl rfl, R2, R3, R4⟩
theorem st_1133 (L : Nat) (xs : Fn) (v0 : TXv) (v1 : TBv) (v2 : Fn) (v3 : SCv) (v4 : TBv) (v5 : Fn) (v6 : SCv) (vh : HIv) (vr : HRv) (v7 : Int32) (v8 : TBv) (v9 : Fn) (v10 : Int32) (v11 : TBv) (v12 : Fn) (v13 : TAv) (v14 : Fn) (v15 : Fn) (u0 : MOv) (u1 : Fn) (u2 : Fn) (u3 : Fn) (u4 : Fn) (u5 : Fn) (u6 : Fn) (u7 : Fn) (u8 : Fn) (vo : FnL) (x4 : Int32) (R1 : TxtR v0 u0 u1) (R2 : TabX v1 v2 u2) (R3 : HisR vh vr u0.2.2.1 u4) (R4 : SloR v7 v8 v9 v10 v11 v12 u5 u6) (h1 : ¬ ((x4 + (1 : Int32)) < 0 ∨ L ≤ (x4 + (1 : Int32)).toNatClampNeg)) (h2 : ¬ ((x4 + (2 : Int32)) < 0 ∨ L ≤ (x4 + (2 : Int32)).toNatClampNeg)) : ∃ z : lawS, f_L_law_B23_b1133 L xs v0 v1 v2 v3 v4 v5 v6 vh vr v7 v8 v9 v10 v11 v12 v13 v14 v15 u0 u1 u2 u3 u4 u5 u6 u7 u8 vo x4 = some (.inl z) ∧ z.1 = x4 + (4 : Int32) ∧ RelZ z := by
  obtain ⟨k, v3', v13', w, b, u', u7', u8', E1, E2, hu, hw⟩ := bestArms_eq R2 v3 v13 u0 u7 u8 vo (xs (x4 + (1 : Int32)).toNatClampNeg) (xs (x4 + (2 : Int32)).toNatClampNeg)
  unfold f_L_law_B23_b1133
  rw [if_neg h1, if_neg h2, E1, Option.bind_some, if_neg h1, if_neg h2, E2, Option.bind_some]
  exact ⟨_, thr_tail _ hu.1 hw, rfl, R1.to rfl rfl hu.2.1, R2, R3.to hu.2.2, R4⟩
theorem st_1120 (L : Nat) (xs : Fn) (v0 : TXv) (v1 : TBv) (v2 : Fn) (v3 : SCv) (v4 : TBv) (v5 : Fn) (v6 : SCv) (vh : HIv) (vr : HRv) (v7 : Int32) (v8 : TBv) (v9 : Fn) (v10 : Int32) (v11 : TBv) (v12 : Fn) (v13 : TAv) (v14 : Fn) (v15 : Fn) (u0 : MOv) (u1 : Fn) (u2 : Fn) (u3 : Fn) (u4 : Fn) (u5 : Fn) (u6 : Fn) (u7 : Fn) (u8 : Fn) (vo : FnL) (x4 : Int32) (R1 : TxtR v0 u0 u1) (R2 : TabX v1 v2 u2) (R3 : HisR vh vr u0.2.2.1 u4) (R4 : SloR v7 v8 v9 v10 v11 v12 u5 u6)  : ∃ z : lawS, f_L_law_B23_b1120 L xs v0 v1 v2 v3 v4 v5 v6 vh vr v7 v8 v9 v10 v11 v12 v13 v14 v15 u0 u1 u2 u3 u4 u5 u6 u7 u8 vo x4 = some (.inl z) ∧ z.1 = x4 + (4 : Int32) ∧ RelZ z := by
  obtain ⟨b, E1, E2⟩ := needs_ask R2 u0
  unfold f_L_law_B23_b1120
  rw [E1, Option.bind_some, E2, Option.bind_some]
  exact ⟨_, eq_tail _ rfl, rfl, R1.to rfl rfl rfl, R2, R3, R4⟩
theorem st_1107 (L : Nat) (xs : Fn) (v0 : TXv) (v1 : TBv) (v2 : Fn) (v3 : SCv) (v4 : TBv) (v5 : Fn) (v6 : SCv) (vh : HIv) (vr : HRv) (v7 : Int32) (v8 : TBv) (v9 : Fn) (v10 : Int32) (v11 : TBv) (v12 : Fn) (v13 : TAv) (v14 : Fn) (v15 : Fn) (u0 : MOv) (u1 : Fn) (u2 : Fn) (u3 : Fn) (u4 : Fn) (u5 : Fn) (u6 : Fn) (u7 : Fn) (u8 : Fn) (vo : FnL) (x4 : Int32) (R1 : TxtR v0 u0 u1) (R2 : TabX v1 v2 u2) (R3 : HisR vh vr u0.2.2.1 u4) (R4 : SloR v7 v8 v9 v10 v11 v12 u5 u6)  : ∃ z : lawS, f_L_law_B23_b1107 L xs v0 v1 v2 v3 v4 v5 v6 vh vr v7 v8 v9 v10 v11 v12 v13 v14 v15 u0 u1 u2 u3 u4 u5 u6 u7 u8 vo x4 = some (.inl z) ∧ z.1 = x4 + (4 : Int32) ∧ RelZ z := by
  obtain ⟨b, v3', v13', u', u7', u8', E1, E2, hu⟩ := sharpest_ask R2 v3 v13 u0 u7 u8
  unfold f_L_law_B23_b1107
  rw [E1, Option.bind_some, E2, Option.bind_some]
  exact ⟨_, eq_tail _ rfl, rfl, R1.to rfl rfl hu.2.1, R2, R3.to hu.2.2, R4⟩
theorem st_1039 (L : Nat) (xs : Fn) (v0 : TXv) (v1 : TBv) (v2 : Fn) (v3 : SCv) (v4 : TBv) (v5 : Fn) (v6 : SCv) (vh : HIv) (vr : HRv) (v7 : Int32) (v8 : TBv) (v9 : Fn) (v10 : Int32) (v11 : TBv) (v12 : Fn) (v13 : TAv) (v14 : Fn) (v15 : Fn) (u0 : MOv) (u1 : Fn) (u2 : Fn) (u3 : Fn) (u4 : Fn) (u5 : Fn) (u6 : Fn) (u7 : Fn) (u8 : Fn) (vo : FnL) (x4 : Int32) (R1 : TxtR v0 u0 u1) (R2 : TabX v1 v2 u2) (R3 : HisR vh vr u0.2.2.1 u4) (R4 : SloR v7 v8 v9 v10 v11 v12 u5 u6) (hL1 : LsR v14 12 1) (hL2 : LsR v15 66 2) (h1 : ¬ ((x4 + (1 : Int32)) < 0 ∨ L ≤ (x4 + (1 : Int32)).toNatClampNeg)) (h2 : ¬ ((x4 + (2 : Int32)) < 0 ∨ L ≤ (x4 + (2 : Int32)).toNatClampNeg)) : ∃ z : lawS, f_L_law_B23_b1039 L xs v0 v1 v2 v3 v4 v5 v6 vh vr v7 v8 v9 v10 v11 v12 v13 v14 v15 u0 u1 u2 u3 u4 u5 u6 u7 u8 vo x4 = some (.inl z) ∧ z.1 = x4 + (4 : Int32) ∧ RelZ z := by
  obtain ⟨k, v3', v13', w, b, u', u7', u8', E1, E2, hu, hw⟩ := best_eq R2 hL1 hL2 v3 v13 u0 u7 u8 vo (xs (x4 + (1 : Int32)).toNatClampNeg) (xs (x4 + (2 : Int32)).toNatClampNeg)
  unfold f_L_law_B23_b1039
  rw [if_neg h1, if_neg h2, E1, Option.bind_some, if_neg h1, if_neg h2, E2, Option.bind_some]
  exact ⟨_, thr_tail _ hu.1 hw, rfl, R1.to rfl rfl hu.2.1, R2, R3.to hu.2.2, R4⟩
theorem st_959 (L : Nat) (xs : Fn) (v0 : TXv) (v1 : TBv) (v2 : Fn) (v3 : SCv) (v4 : TBv) (v5 : Fn) (v6 : SCv) (vh : HIv) (vr : HRv) (v7 : Int32) (v8 : TBv) (v9 : Fn) (v10 : Int32) (v11 : TBv) (v12 : Fn) (v13 : TAv) (v14 : Fn) (v15 : Fn) (u0 : MOv) (u1 : Fn) (u2 : Fn) (u3 : Fn) (u4 : Fn) (u5 : Fn) (u6 : Fn) (u7 : Fn) (u8 : Fn) (vo : FnL) (x4 : Int32) (R1 : TxtR v0 u0 u1) (R2 : TabX v1 v2 u2) (R3 : HisR vh vr u0.2.2.1 u4) (R4 : SloR v7 v8 v9 v10 v11 v12 u5 u6) (h1 : ¬ ((x4 + (1 : Int32)) < 0 ∨ L ≤ (x4 + (1 : Int32)).toNatClampNeg)) (h2 : ¬ ((x4 + (2 : Int32)) < 0 ∨ L ≤ (x4 + (2 : Int32)).toNatClampNeg)) (h3 : ¬ ((x4 + (3 : Int32)) < 0 ∨ L ≤ (x4 + (3 : Int32)).toNatClampNeg)) : ∃ z : lawS, f_L_law_B23_b959 L xs v0 v1 v2 v3 v4 v5 v6 vh vr v7 v8 v9 v10 v11 v12 v13 v14 v15 u0 u1 u2 u3 u4 u5 u6 u7 u8 vo x4 = some (.inl z) ∧ z.1 = x4 + (4 : Int32) ∧ RelZ z := by
  obtain ⟨k, v3', v13', w, b, u', u7', u8', E1, E2, hu, hw⟩ := leaves_eq R2 v3 v13 u0 u7 u8 vo (xs (x4 + (1 : Int32)).toNatClampNeg) (xs (x4 + (2 : Int32)).toNatClampNeg) (xs (x4 + (3 : Int32)).toNatClampNeg)
  unfold f_L_law_B23_b959
  rw [if_neg h1, if_neg h2, if_neg h3, E1, Option.bind_some, if_neg h1, if_neg h2, if_neg h3, E2, Option.bind_some]
  exact ⟨_, thr_tail _ hu.1 hw, rfl, R1.to rfl rfl hu.2.1, R2, R3.to hu.2.2, R4⟩
theorem st_915 (L : Nat) (xs : Fn) (v0 : TXv) (v1 : TBv) (v2 : Fn) (v3 : SCv) (v4 : TBv) (v5 : Fn) (v6 : SCv) (vh : HIv) (vr : HRv) (v7 : Int32) (v8 : TBv) (v9 : Fn) (v10 : Int32) (v11 : TBv) (v12 : Fn) (v13 : TAv) (v14 : Fn) (v15 : Fn) (u0 : MOv) (u1 : Fn) (u2 : Fn) (u3 : Fn) (u4 : Fn) (u5 : Fn) (u6 : Fn) (u7 : Fn) (u8 : Fn) (vo : FnL) (x4 : Int32) (R1 : TxtR v0 u0 u1) (R2 : TabX v1 v2 u2) (R3 : HisR vh vr u0.2.2.1 u4) (R4 : SloR v7 v8 v9 v10 v11 v12 u5 u6)  : ∃ z : lawS, f_L_law_B23_b915 L xs v0 v1 v2 v3 v4 v5 v6 vh vr v7 v8 v9 v10 v11 v12 v13 v14 v15 u0 u1 u2 u3 u4 u5 u6 u7 u8 vo x4 = some (.inl z) ∧ z.1 = x4 + (4 : Int32) ∧ RelZ z := by
  obtain ⟨k, tb', su', vh', w, b, u', r', E1, E2, hk, hz, hw, T, HH⟩ := undo_eq R3 R2 vo
  unfold f_L_law_B23_b915
  rw [E1, Option.bind_some, E2, Option.bind_some]
  exact ⟨_, thr_tail _ hk hw, rfl, R1.to rfl rfl hz, T, HH, R4⟩
theorem st_871 (L : Nat) (xs : Fn) (v0 : TXv) (v1 : TBv) (v2 : Fn) (v3 : SCv) (v4 : TBv) (v5 : Fn) (v6 : SCv) (vh : HIv) (vr : HRv) (v7 : Int32) (v8 : TBv) (v9 : Fn) (v10 : Int32) (v11 : TBv) (v12 : Fn) (v13 : TAv) (v14 : Fn) (v15 : Fn) (u0 : MOv) (u1 : Fn) (u2 : Fn) (u3 : Fn) (u4 : Fn) (u5 : Fn) (u6 : Fn) (u7 : Fn) (u8 : Fn) (vo : FnL) (x4 : Int32) (R1 : TxtR v0 u0 u1) (R2 : TabX v1 v2 u2) (R3 : HisR vh vr u0.2.2.1 u4) (R4 : SloR v7 v8 v9 v10 v11 v12 u5 u6)  : ∃ z : lawS, f_L_law_B23_b871 L xs v0 v1 v2 v3 v4 v5 v6 vh vr v7 v8 v9 v10 v11 v12 v13 v14 v15 u0 u1 u2 u3 u4 u5 u6 u7 u8 vo x4 = some (.inl z) ∧ z.1 = x4 + (4 : Int32) ∧ RelZ z := by
  obtain ⟨k, tb', su', sc', vh', vr', w, b, u', r', d', E1, E2, hu, hw, T, HH⟩ := forget_eq R3 R2 v3 vo
  unfold f_L_law_B23_b871
  rw [E1, Option.bind_some, E2, Option.bind_some]
  exact ⟨_, thr_tail _ hu.1 hw, rfl, R1.to rfl rfl hu.2, T, HH, R4⟩
theorem st_815 (L : Nat) (xs : Fn) (v0 : TXv) (v1 : TBv) (v2 : Fn) (v3 : SCv) (v4 : TBv) (v5 : Fn) (v6 : SCv) (vh : HIv) (vr : HRv) (v7 : Int32) (v8 : TBv) (v9 : Fn) (v10 : Int32) (v11 : TBv) (v12 : Fn) (v13 : TAv) (v14 : Fn) (v15 : Fn) (u0 : MOv) (u1 : Fn) (u2 : Fn) (u3 : Fn) (u4 : Fn) (u5 : Fn) (u6 : Fn) (u7 : Fn) (u8 : Fn) (vo : FnL) (x4 : Int32) (R1 : TxtR v0 u0 u1) (R2 : TabX v1 v2 u2) (R3 : HisR vh vr u0.2.2.1 u4) (R4 : SloR v7 v8 v9 v10 v11 v12 u5 u6) (h1 : ¬ ((x4 + (1 : Int32)) < 0 ∨ L ≤ (x4 + (1 : Int32)).toNatClampNeg)) : ∃ z : lawS, f_L_law_B23_b815 L xs v0 v1 v2 v3 v4 v5 v6 vh vr v7 v8 v9 v10 v11 v12 v13 v14 v15 u0 u1 u2 u3 u4 u5 u6 u7 u8 vo x4 = some (.inl z) ∧ z.1 = x4 + (4 : Int32) ∧ RelZ z := by
  obtain ⟨k, tb', vh', vr', w, b, u', r', d', E1, E2, hu, hw, T, HH⟩ := accusePan_eq R3 R2 vo (xs (x4 + (1 : Int32)).toNatClampNeg)
  unfold f_L_law_B23_b815
  rw [if_neg h1, E1, Option.bind_some, if_neg h1, E2, Option.bind_some]
  exact ⟨_, thr_tail _ hu.1 hw, rfl, R1.to rfl rfl hu.2, T, HH, R4⟩
theorem st_752 (L : Nat) (xs : Fn) (v0 : TXv) (v1 : TBv) (v2 : Fn) (v3 : SCv) (v4 : TBv) (v5 : Fn) (v6 : SCv) (vh : HIv) (vr : HRv) (v7 : Int32) (v8 : TBv) (v9 : Fn) (v10 : Int32) (v11 : TBv) (v12 : Fn) (v13 : TAv) (v14 : Fn) (v15 : Fn) (u0 : MOv) (u1 : Fn) (u2 : Fn) (u3 : Fn) (u4 : Fn) (u5 : Fn) (u6 : Fn) (u7 : Fn) (u8 : Fn) (vo : FnL) (x4 : Int32) (y0 : Bool) (R1 : TxtR v0 u0 u1) (R2 : TabX v1 v2 u2) (R3 : HisR vh vr u0.2.2.1 u4) (R4 : SloR v7 v8 v9 v10 v11 v12 u5 u6) (hy : (xs (x4 + (2 : Int32)).toNatClampNeg) = 0 ↔ y0 = false) (h1 : ¬ ((x4 + (1 : Int32)) < 0 ∨ L ≤ (x4 + (1 : Int32)).toNatClampNeg)) (h2 : ¬ ((x4 + (2 : Int32)) < 0 ∨ L ≤ (x4 + (2 : Int32)).toNatClampNeg)) : ∃ z : lawS, f_L_law_B23_b752 L xs v0 v1 v2 v3 v4 v5 v6 vh vr v7 v8 v9 v10 v11 v12 v13 v14 v15 u0 u1 u2 u3 u4 u5 u6 u7 u8 vo x4 y0 (xs (x4 + (1 : Int32)).toNatClampNeg) = some (.inl z) ∧ z.1 = x4 + (4 : Int32) ∧ RelZ z := by
  obtain ⟨k, tb', vh', vr', w, b, u', r', d', E1, E2, hu, hw, T, HH⟩ := accuse_eq R3 R2 vo (xs (x4 + (1 : Int32)).toNatClampNeg) y0
  have key : ∃ z : lawS, f_L_law_B23_b779 L xs v0 tb' v2 v3 v4 v5 v6 vh' vr' v7 v8 v9 v10 v11 v12 v13 v14 v15 u0 u1 u2 u3 u4 u5 u6 u7 u8 w x4 k y0 (xs (x4 + (1 : Int32)).toNatClampNeg) = some (.inl z) ∧ z.1 = x4 + (4 : Int32) ∧ RelZ z := by
    unfold f_L_law_B23_b779
    rw [E2, Option.bind_some]
    exact ⟨_, thr_tail _ hu.1 hw, rfl, R1.to rfl rfl hu.2, T, HH, R4⟩
  unfold f_L_law_B23_b752
  rw [E1, Option.bind_some, if_neg h1, if_neg h2]
  cases y0
  · rw [if_pos (hy.mpr rfl)]
    exact key
  · rw [if_neg (fun z => nomatch (hy.mp z))]
    exact key
theorem st_731 (L : Nat) (xs : Fn) (v0 : TXv) (v1 : TBv) (v2 : Fn) (v3 : SCv) (v4 : TBv) (v5 : Fn) (v6 : SCv) (vh : HIv) (vr : HRv) (v7 : Int32) (v8 : TBv) (v9 : Fn) (v10 : Int32) (v11 : TBv) (v12 : Fn) (v13 : TAv) (v14 : Fn) (v15 : Fn) (u0 : MOv) (u1 : Fn) (u2 : Fn) (u3 : Fn) (u4 : Fn) (u5 : Fn) (u6 : Fn) (u7 : Fn) (u8 : Fn) (vo : FnL) (x4 : Int32) (R1 : TxtR v0 u0 u1) (R2 : TabX v1 v2 u2) (R3 : HisR vh vr u0.2.2.1 u4) (R4 : SloR v7 v8 v9 v10 v11 v12 u5 u6) (h1 : ¬ ((x4 + (1 : Int32)) < 0 ∨ L ≤ (x4 + (1 : Int32)).toNatClampNeg)) (h2 : ¬ ((x4 + (2 : Int32)) < 0 ∨ L ≤ (x4 + (2 : Int32)).toNatClampNeg)) : ∃ z : lawS, f_L_law_B23_b731 L xs v0 v1 v2 v3 v4 v5 v6 vh vr v7 v8 v9 v10 v11 v12 v13 v14 v15 u0 u1 u2 u3 u4 u5 u6 u7 u8 vo x4 = some (.inl z) ∧ z.1 = x4 + (4 : Int32) ∧ RelZ z := by
  unfold f_L_law_B23_b731
  rw [if_neg h1, if_neg h2]
  by_cases h0 : (xs (x4 + (2 : Int32)).toNatClampNeg) = 0
  · rw [if_pos h0]
    exact st_752 L xs v0 v1 v2 v3 v4 v5 v6 vh vr v7 v8 v9 v10 v11 v12 v13 v14 v15 u0 u1 u2 u3 u4 u5 u6 u7 u8 vo x4 false R1 R2 R3 R4 ⟨fun _ => rfl, fun _ => h0⟩ h1 h2
  · rw [if_neg h0]
    exact st_752 L xs v0 v1 v2 v3 v4 v5 v6 vh vr v7 v8 v9 v10 v11 v12 v13 v14 v15 u0 u1 u2 u3 u4 u5 u6 u7 u8 vo x4 true R1 R2 R3 R4 ⟨fun z => absurd z h0, fun z => nomatch z⟩ h1 h2
theorem st_663 (L : Nat) (xs : Fn) (v0 : TXv) (v1 : TBv) (v2 : Fn) (v3 : SCv) (v4 : TBv) (v5 : Fn) (v6 : SCv) (vh : HIv) (vr : HRv) (v7 : Int32) (v8 : TBv) (v9 : Fn) (v10 : Int32) (v11 : TBv) (v12 : Fn) (v13 : TAv) (v14 : Fn) (v15 : Fn) (u0 : MOv) (u1 : Fn) (u2 : Fn) (u3 : Fn) (u4 : Fn) (u5 : Fn) (u6 : Fn) (u7 : Fn) (u8 : Fn) (vo : FnL) (x4 : Int32) (R1 : TxtR v0 u0 u1) (R2 : TabX v1 v2 u2) (R3 : HisR vh vr u0.2.2.1 u4) (R4 : SloR v7 v8 v9 v10 v11 v12 u5 u6) (h1 : ¬ ((x4 + (1 : Int32)) < 0 ∨ L ≤ (x4 + (1 : Int32)).toNatClampNeg)) (h2 : ¬ ((x4 + (2 : Int32)) < 0 ∨ L ≤ (x4 + (2 : Int32)).toNatClampNeg)) : ∃ z : lawS, f_L_law_B23_b663 L xs v0 v1 v2 v3 v4 v5 v6 vh vr v7 v8 v9 v10 v11 v12 v13 v14 v15 u0 u1 u2 u3 u4 u5 u6 u7 u8 vo x4 = some (.inl z) ∧ z.1 = x4 + (4 : Int32) ∧ RelZ z := by
  obtain ⟨k, tb', su', sc', vh', vr', w, b, u', r', d', E1, E2, hu, hw, T, HH⟩ := weigh_eq R3 R2 v3 vo (xs (x4 + (1 : Int32)).toNatClampNeg) (xs (x4 + (2 : Int32)).toNatClampNeg)
  unfold f_L_law_B23_b663
  rw [if_neg h1, if_neg h2, E1, Option.bind_some, if_neg h1, if_neg h2, E2, Option.bind_some]
  exact ⟨_, thr_tail _ hu.1 hw, rfl, R1.to rfl rfl hu.2, T, HH, R4⟩
theorem st_595 (L : Nat) (xs : Fn) (v0 : TXv) (v1 : TBv) (v2 : Fn) (v3 : SCv) (v4 : TBv) (v5 : Fn) (v6 : SCv) (vh : HIv) (vr : HRv) (v7 : Int32) (v8 : TBv) (v9 : Fn) (v10 : Int32) (v11 : TBv) (v12 : Fn) (v13 : TAv) (v14 : Fn) (v15 : Fn) (u0 : MOv) (u1 : Fn) (u2 : Fn) (u3 : Fn) (u4 : Fn) (u5 : Fn) (u6 : Fn) (u7 : Fn) (u8 : Fn) (vo : FnL) (x4 : Int32) (R1 : TxtR v0 u0 u1) (R2 : TabX v1 v2 u2) (R3 : HisR vh vr u0.2.2.1 u4) (R4 : SloR v7 v8 v9 v10 v11 v12 u5 u6) (h1 : ¬ ((x4 + (1 : Int32)) < 0 ∨ L ≤ (x4 + (1 : Int32)).toNatClampNeg)) (h2 : ¬ ((x4 + (2 : Int32)) < 0 ∨ L ≤ (x4 + (2 : Int32)).toNatClampNeg)) : ∃ z : lawS, f_L_law_B23_b595 L xs v0 v1 v2 v3 v4 v5 v6 vh vr v7 v8 v9 v10 v11 v12 v13 v14 v15 u0 u1 u2 u3 u4 u5 u6 u7 u8 vo x4 = some (.inl z) ∧ z.1 = x4 + (4 : Int32) ∧ RelZ z := by
  obtain ⟨k, tb', vh', vr', w, b, u', r', d', E1, E2, hu, hw, T, HH⟩ := arms_eq R3 R2 vo (xs (x4 + (1 : Int32)).toNatClampNeg) (xs (x4 + (2 : Int32)).toNatClampNeg)
  unfold f_L_law_B23_b595
  rw [if_neg h1, if_neg h2, E1, Option.bind_some, if_neg h1, if_neg h2, E2, Option.bind_some]
  exact ⟨_, thr_tail _ hu.1 hw, rfl, R1.to rfl rfl hu.2, T, HH, R4⟩
theorem st_527 (L : Nat) (xs : Fn) (v0 : TXv) (v1 : TBv) (v2 : Fn) (v3 : SCv) (v4 : TBv) (v5 : Fn) (v6 : SCv) (vh : HIv) (vr : HRv) (v7 : Int32) (v8 : TBv) (v9 : Fn) (v10 : Int32) (v11 : TBv) (v12 : Fn) (v13 : TAv) (v14 : Fn) (v15 : Fn) (u0 : MOv) (u1 : Fn) (u2 : Fn) (u3 : Fn) (u4 : Fn) (u5 : Fn) (u6 : Fn) (u7 : Fn) (u8 : Fn) (vo : FnL) (x4 : Int32) (R1 : TxtR v0 u0 u1) (R2 : TabX v1 v2 u2) (R3 : HisR vh vr u0.2.2.1 u4) (R4 : SloR v7 v8 v9 v10 v11 v12 u5 u6) (h1 : ¬ ((x4 + (1 : Int32)) < 0 ∨ L ≤ (x4 + (1 : Int32)).toNatClampNeg)) (h2 : ¬ ((x4 + (2 : Int32)) < 0 ∨ L ≤ (x4 + (2 : Int32)).toNatClampNeg)) : ∃ z : lawS, f_L_law_B23_b527 L xs v0 v1 v2 v3 v4 v5 v6 vh vr v7 v8 v9 v10 v11 v12 v13 v14 v15 u0 u1 u2 u3 u4 u5 u6 u7 u8 vo x4 = some (.inl z) ∧ z.1 = x4 + (4 : Int32) ∧ RelZ z := by
  obtain ⟨k, tb', su', vh', vr', w, b, u', r', d', E1, E2, hu, hw, T, HH⟩ := hide_eq R3 R2 vo (xs (x4 + (1 : Int32)).toNatClampNeg) (xs (x4 + (2 : Int32)).toNatClampNeg)
  unfold f_L_law_B23_b527
  rw [if_neg h1, if_neg h2, E1, Option.bind_some, if_neg h1, if_neg h2, E2, Option.bind_some]
  exact ⟨_, thr_tail _ hu.1 hw, rfl, R1.to rfl rfl hu.2, T, HH, R4⟩
theorem st_459 (L : Nat) (xs : Fn) (v0 : TXv) (v1 : TBv) (v2 : Fn) (v3 : SCv) (v4 : TBv) (v5 : Fn) (v6 : SCv) (vh : HIv) (vr : HRv) (v7 : Int32) (v8 : TBv) (v9 : Fn) (v10 : Int32) (v11 : TBv) (v12 : Fn) (v13 : TAv) (v14 : Fn) (v15 : Fn) (u0 : MOv) (u1 : Fn) (u2 : Fn) (u3 : Fn) (u4 : Fn) (u5 : Fn) (u6 : Fn) (u7 : Fn) (u8 : Fn) (vo : FnL) (x4 : Int32) (R1 : TxtR v0 u0 u1) (R2 : TabX v1 v2 u2) (R3 : HisR vh vr u0.2.2.1 u4) (R4 : SloR v7 v8 v9 v10 v11 v12 u5 u6) (h1 : ¬ ((x4 + (1 : Int32)) < 0 ∨ L ≤ (x4 + (1 : Int32)).toNatClampNeg)) (h2 : ¬ ((x4 + (2 : Int32)) < 0 ∨ L ≤ (x4 + (2 : Int32)).toNatClampNeg)) : ∃ z : lawS, f_L_law_B23_b459 L xs v0 v1 v2 v3 v4 v5 v6 vh vr v7 v8 v9 v10 v11 v12 v13 v14 v15 u0 u1 u2 u3 u4 u5 u6 u7 u8 vo x4 = some (.inl z) ∧ z.1 = x4 + (4 : Int32) ∧ RelZ z := by
  obtain ⟨k, w, b, E1, E2, hw⟩ := weighing_eq R2 u0 vo (xs (x4 + (1 : Int32)).toNatClampNeg) (xs (x4 + (2 : Int32)).toNatClampNeg)
  unfold f_L_law_B23_b459
  rw [if_neg h1, if_neg h2, E1, Option.bind_some, if_neg h1, if_neg h2, E2, Option.bind_some]
  exact ⟨_, thr_tail _ rfl hw, rfl, R1.to rfl rfl rfl, R2, R3, R4⟩
theorem st_403 (L : Nat) (xs : Fn) (v0 : TXv) (v1 : TBv) (v2 : Fn) (v3 : SCv) (v4 : TBv) (v5 : Fn) (v6 : SCv) (vh : HIv) (vr : HRv) (v7 : Int32) (v8 : TBv) (v9 : Fn) (v10 : Int32) (v11 : TBv) (v12 : Fn) (v13 : TAv) (v14 : Fn) (v15 : Fn) (u0 : MOv) (u1 : Fn) (u2 : Fn) (u3 : Fn) (u4 : Fn) (u5 : Fn) (u6 : Fn) (u7 : Fn) (u8 : Fn) (vo : FnL) (x4 : Int32) (R1 : TxtR v0 u0 u1) (R2 : TabX v1 v2 u2) (R3 : HisR vh vr u0.2.2.1 u4) (R4 : SloR v7 v8 v9 v10 v11 v12 u5 u6) (h1 : ¬ ((x4 + (1 : Int32)) < 0 ∨ L ≤ (x4 + (1 : Int32)).toNatClampNeg)) : ∃ z : lawS, f_L_law_B23_b403 L xs v0 v1 v2 v3 v4 v5 v6 vh vr v7 v8 v9 v10 v11 v12 v13 v14 v15 u0 u1 u2 u3 u4 u5 u6 u7 u8 vo x4 = some (.inl z) ∧ z.1 = x4 + (4 : Int32) ∧ RelZ z := by
  obtain ⟨k, w, b, E1, E2, hw⟩ := isLeft_eq R2 u0 vo (xs (x4 + (1 : Int32)).toNatClampNeg)
  unfold f_L_law_B23_b403
  rw [if_neg h1, E1, Option.bind_some, if_neg h1, E2, Option.bind_some]
  exact ⟨_, thr_tail _ rfl hw, rfl, R1.to rfl rfl rfl, R2, R3, R4⟩
theorem st_390 (L : Nat) (xs : Fn) (v0 : TXv) (v1 : TBv) (v2 : Fn) (v3 : SCv) (v4 : TBv) (v5 : Fn) (v6 : SCv) (vh : HIv) (vr : HRv) (v7 : Int32) (v8 : TBv) (v9 : Fn) (v10 : Int32) (v11 : TBv) (v12 : Fn) (v13 : TAv) (v14 : Fn) (v15 : Fn) (u0 : MOv) (u1 : Fn) (u2 : Fn) (u3 : Fn) (u4 : Fn) (u5 : Fn) (u6 : Fn) (u7 : Fn) (u8 : Fn) (vo : FnL) (x4 : Int32) (R1 : TxtR v0 u0 u1) (R2 : TabX v1 v2 u2) (R3 : HisR vh vr u0.2.2.1 u4) (R4 : SloR v7 v8 v9 v10 v11 v12 u5 u6)  : ∃ z : lawS, f_L_law_B23_b390 L xs v0 v1 v2 v3 v4 v5 v6 vh vr v7 v8 v9 v10 v11 v12 v13 v14 v15 u0 u1 u2 u3 u4 u5 u6 u7 u8 vo x4 = some (.inl z) ∧ z.1 = x4 + (4 : Int32) ∧ RelZ z := by
  obtain ⟨b, E1, E2⟩ := pans_ask R2 u0
  unfold f_L_law_B23_b390
  rw [E1, Option.bind_some, E2, Option.bind_some]
  exact ⟨_, eq_tail _ rfl, rfl, R1.to rfl rfl rfl, R2, R3, R4⟩
theorem st_334 (L : Nat) (xs : Fn) (v0 : TXv) (v1 : TBv) (v2 : Fn) (v3 : SCv) (v4 : TBv) (v5 : Fn) (v6 : SCv) (vh : HIv) (vr : HRv) (v7 : Int32) (v8 : TBv) (v9 : Fn) (v10 : Int32) (v11 : TBv) (v12 : Fn) (v13 : TAv) (v14 : Fn) (v15 : Fn) (u0 : MOv) (u1 : Fn) (u2 : Fn) (u3 : Fn) (u4 : Fn) (u5 : Fn) (u6 : Fn) (u7 : Fn) (u8 : Fn) (vo : FnL) (x4 : Int32) (R1 : TxtR v0 u0 u1) (R2 : TabX v1 v2 u2) (R3 : HisR vh vr u0.2.2.1 u4) (R4 : SloR v7 v8 v9 v10 v11 v12 u5 u6) (h1 : ¬ ((x4 + (1 : Int32)) < 0 ∨ L ≤ (x4 + (1 : Int32)).toNatClampNeg)) : ∃ z : lawS, f_L_law_B23_b334 L xs v0 v1 v2 v3 v4 v5 v6 vh vr v7 v8 v9 v10 v11 v12 v13 v14 v15 u0 u1 u2 u3 u4 u5 u6 u7 u8 vo x4 = some (.inl z) ∧ z.1 = x4 + (4 : Int32) ∧ RelZ z := by
  obtain ⟨k, w, b, E1, E2, hw⟩ := coin_eq R2 u0 vo (xs (x4 + (1 : Int32)).toNatClampNeg)
  unfold f_L_law_B23_b334
  rw [if_neg h1, E1, Option.bind_some, if_neg h1, E2, Option.bind_some]
  exact ⟨_, thr_tail _ rfl hw, rfl, R1.to rfl rfl rfl, R2, R3, R4⟩
theorem st_278 (L : Nat) (xs : Fn) (v0 : TXv) (v1 : TBv) (v2 : Fn) (v3 : SCv) (v4 : TBv) (v5 : Fn) (v6 : SCv) (vh : HIv) (vr : HRv) (v7 : Int32) (v8 : TBv) (v9 : Fn) (v10 : Int32) (v11 : TBv) (v12 : Fn) (v13 : TAv) (v14 : Fn) (v15 : Fn) (u0 : MOv) (u1 : Fn) (u2 : Fn) (u3 : Fn) (u4 : Fn) (u5 : Fn) (u6 : Fn) (u7 : Fn) (u8 : Fn) (vo : FnL) (x4 : Int32) (R1 : TxtR v0 u0 u1) (R2 : TabX v1 v2 u2) (R3 : HisR vh vr u0.2.2.1 u4) (R4 : SloR v7 v8 v9 v10 v11 v12 u5 u6) (h1 : ¬ ((x4 + (1 : Int32)) < 0 ∨ L ≤ (x4 + (1 : Int32)).toNatClampNeg)) : ∃ z : lawS, f_L_law_B23_b278 L xs v0 v1 v2 v3 v4 v5 v6 vh vr v7 v8 v9 v10 v11 v12 v13 v14 v15 u0 u1 u2 u3 u4 u5 u6 u7 u8 vo x4 = some (.inl z) ∧ z.1 = x4 + (4 : Int32) ∧ RelZ z := by
  obtain ⟨k, w, b, E1, E2, hw⟩ := about_eq R2 u0 vo (xs (x4 + (1 : Int32)).toNatClampNeg)
  unfold f_L_law_B23_b278
  rw [if_neg h1, E1, Option.bind_some, if_neg h1, E2, Option.bind_some]
  exact ⟨_, thr_tail _ rfl hw, rfl, R1.to rfl rfl rfl, R2, R3, R4⟩
theorem st_234 (L : Nat) (xs : Fn) (v0 : TXv) (v1 : TBv) (v2 : Fn) (v3 : SCv) (v4 : TBv) (v5 : Fn) (v6 : SCv) (vh : HIv) (vr : HRv) (v7 : Int32) (v8 : TBv) (v9 : Fn) (v10 : Int32) (v11 : TBv) (v12 : Fn) (v13 : TAv) (v14 : Fn) (v15 : Fn) (u0 : MOv) (u1 : Fn) (u2 : Fn) (u3 : Fn) (u4 : Fn) (u5 : Fn) (u6 : Fn) (u7 : Fn) (u8 : Fn) (vo : FnL) (x4 : Int32) (R1 : TxtR v0 u0 u1) (R2 : TabX v1 v2 u2) (R3 : HisR vh vr u0.2.2.1 u4) (R4 : SloR v7 v8 v9 v10 v11 v12 u5 u6)  : ∃ z : lawS, f_L_law_B23_b234 L xs v0 v1 v2 v3 v4 v5 v6 vh vr v7 v8 v9 v10 v11 v12 v13 v14 v15 u0 u1 u2 u3 u4 u5 u6 u7 u8 vo x4 = some (.inl z) ∧ z.1 = x4 + (4 : Int32) ∧ RelZ z := by
  obtain ⟨k, x', tb', su', sc', vh', v7', v10', w, b, u', u2', u3', u6', E1, E2, hk, hw, TX, T, SS, HH⟩ := load_eq R1 R2 R4 R3 v3 u3 vo
  unfold f_L_law_B23_b234
  rw [E1, Option.bind_some, E2, Option.bind_some]
  exact ⟨_, thr_tail _ hk hw, rfl, TX, T, HH, SS⟩
theorem st_221 (L : Nat) (xs : Fn) (v0 : TXv) (v1 : TBv) (v2 : Fn) (v3 : SCv) (v4 : TBv) (v5 : Fn) (v6 : SCv) (vh : HIv) (vr : HRv) (v7 : Int32) (v8 : TBv) (v9 : Fn) (v10 : Int32) (v11 : TBv) (v12 : Fn) (v13 : TAv) (v14 : Fn) (v15 : Fn) (u0 : MOv) (u1 : Fn) (u2 : Fn) (u3 : Fn) (u4 : Fn) (u5 : Fn) (u6 : Fn) (u7 : Fn) (u8 : Fn) (vo : FnL) (x4 : Int32) (R1 : TxtR v0 u0 u1) (R2 : TabX v1 v2 u2) (R3 : HisR vh vr u0.2.2.1 u4) (R4 : SloR v7 v8 v9 v10 v11 v12 u5 u6)  : ∃ z : lawS, f_L_law_B23_b221 L xs v0 v1 v2 v3 v4 v5 v6 vh vr v7 v8 v9 v10 v11 v12 v13 v14 v15 u0 u1 u2 u3 u4 u5 u6 u7 u8 vo x4 = some (.inl z) ∧ z.1 = x4 + (4 : Int32) ∧ RelZ z := by
  obtain ⟨b, x', u', u3', E1, E2, ha, TX⟩ := error_both R1 u3
  unfold f_L_law_B23_b221
  rw [E1, Option.bind_some, E2, Option.bind_some]
  exact ⟨_, eq_tail _ rfl, rfl, TX, R2, R3.to ha, R4⟩
theorem st_208 (L : Nat) (xs : Fn) (v0 : TXv) (v1 : TBv) (v2 : Fn) (v3 : SCv) (v4 : TBv) (v5 : Fn) (v6 : SCv) (vh : HIv) (vr : HRv) (v7 : Int32) (v8 : TBv) (v9 : Fn) (v10 : Int32) (v11 : TBv) (v12 : Fn) (v13 : TAv) (v14 : Fn) (v15 : Fn) (u0 : MOv) (u1 : Fn) (u2 : Fn) (u3 : Fn) (u4 : Fn) (u5 : Fn) (u6 : Fn) (u7 : Fn) (u8 : Fn) (vo : FnL) (x4 : Int32) (R1 : TxtR v0 u0 u1) (R2 : TabX v1 v2 u2) (R3 : HisR vh vr u0.2.2.1 u4) (R4 : SloR v7 v8 v9 v10 v11 v12 u5 u6)  : ∃ z : lawS, f_L_law_B23_b208 L xs v0 v1 v2 v3 v4 v5 v6 vh vr v7 v8 v9 v10 v11 v12 v13 v14 v15 u0 u1 u2 u3 u4 u5 u6 u7 u8 vo x4 = some (.inl z) ∧ z.1 = x4 + (4 : Int32) ∧ RelZ z := by
  obtain ⟨b, x', u', E1, E2, ha, TX⟩ := clear_both R1
  unfold f_L_law_B23_b208
  rw [E1, Option.bind_some, E2, Option.bind_some]
  exact ⟨_, eq_tail _ rfl, rfl, TX, R2, R3.to ha, R4⟩
theorem st_152 (L : Nat) (xs : Fn) (v0 : TXv) (v1 : TBv) (v2 : Fn) (v3 : SCv) (v4 : TBv) (v5 : Fn) (v6 : SCv) (vh : HIv) (vr : HRv) (v7 : Int32) (v8 : TBv) (v9 : Fn) (v10 : Int32) (v11 : TBv) (v12 : Fn) (v13 : TAv) (v14 : Fn) (v15 : Fn) (u0 : MOv) (u1 : Fn) (u2 : Fn) (u3 : Fn) (u4 : Fn) (u5 : Fn) (u6 : Fn) (u7 : Fn) (u8 : Fn) (vo : FnL) (x4 : Int32) (R1 : TxtR v0 u0 u1) (R2 : TabX v1 v2 u2) (R3 : HisR vh vr u0.2.2.1 u4) (R4 : SloR v7 v8 v9 v10 v11 v12 u5 u6) (h1 : ¬ ((x4 + (1 : Int32)) < 0 ∨ L ≤ (x4 + (1 : Int32)).toNatClampNeg)) : ∃ z : lawS, f_L_law_B23_b152 L xs v0 v1 v2 v3 v4 v5 v6 vh vr v7 v8 v9 v10 v11 v12 v13 v14 v15 u0 u1 u2 u3 u4 u5 u6 u7 u8 vo x4 = some (.inl z) ∧ z.1 = x4 + (4 : Int32) ∧ RelZ z := by
  obtain ⟨k, x', w, b, u', v', E1, E2, hk, ha, hw, TX⟩ := append_eq R1 vo (xs (x4 + (1 : Int32)).toNatClampNeg)
  unfold f_L_law_B23_b152
  rw [if_neg h1, E1, Option.bind_some, if_neg h1, E2, Option.bind_some]
  exact ⟨_, thr_tail _ hk hw, rfl, TX, R2, R3.to ha, R4⟩
