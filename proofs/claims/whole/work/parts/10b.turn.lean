/-! ===== one turn of the law, and its run ===== -/
set_option maxRecDepth 20000 in
theorem turn_L {L : Nat} {xs v14 v15 : Fn} (hL1 : LsR v14 12 1) (hL2 : LsR v15 66 2) (z : lawS) (hz : RelZ z) (hlt : ¬ Int32.ofNat L - (4 : Int32) < z.1) (h0 : ¬ (z.1 < 0 ∨ L ≤ z.1.toNatClampNeg)) (h1 : ¬ ((z.1 + (1 : Int32)) < 0 ∨ L ≤ (z.1 + (1 : Int32)).toNatClampNeg)) (h2 : ¬ ((z.1 + (2 : Int32)) < 0 ∨ L ≤ (z.1 + (2 : Int32)).toNatClampNeg)) (h3 : ¬ ((z.1 + (3 : Int32)) < 0 ∨ L ≤ (z.1 + (3 : Int32)).toNatClampNeg)) : ∃ z', f_L_law_B23 L xs v14 v15 z = some (.inl z') ∧ z'.1 = z.1 + (4 : Int32) ∧ RelZ z' := by
  obtain ⟨x4, v0, v1, v2, v3, v4, v5, v6, vh, vr, v7, v8, v9, v10, v11, v12, v13, u0, u1, u2, u3, u4, u5, u6, u7, u8, vo⟩ := z
  obtain ⟨R1, R2, R3, R4⟩ := hz
  unfold f_L_law_B23
  rw [if_neg hlt, if_neg h0]
  by_cases c0 : xs x4.toNatClampNeg &&& (31 : Int32) = (0 : Int32)
  · rw [if_pos c0]
    exact st_152 L xs v0 v1 v2 v3 v4 v5 v6 vh vr v7 v8 v9 v10 v11 v12 v13 v14 v15 u0 u1 u2 u3 u4 u5 u6 u7 u8 vo x4 R1 R2 R3 R4 h1
  rw [if_neg c0]
  by_cases c1 : xs x4.toNatClampNeg &&& (31 : Int32) = (1 : Int32)
  · rw [if_pos c1]
    exact st_208 L xs v0 v1 v2 v3 v4 v5 v6 vh vr v7 v8 v9 v10 v11 v12 v13 v14 v15 u0 u1 u2 u3 u4 u5 u6 u7 u8 vo x4 R1 R2 R3 R4 
  rw [if_neg c1]
  by_cases c2 : xs x4.toNatClampNeg &&& (31 : Int32) = (2 : Int32)
  · rw [if_pos c2]
    exact st_221 L xs v0 v1 v2 v3 v4 v5 v6 vh vr v7 v8 v9 v10 v11 v12 v13 v14 v15 u0 u1 u2 u3 u4 u5 u6 u7 u8 vo x4 R1 R2 R3 R4 
  rw [if_neg c2]
  by_cases c3 : xs x4.toNatClampNeg &&& (31 : Int32) = (3 : Int32)
  · rw [if_pos c3]
    exact st_234 L xs v0 v1 v2 v3 v4 v5 v6 vh vr v7 v8 v9 v10 v11 v12 v13 v14 v15 u0 u1 u2 u3 u4 u5 u6 u7 u8 vo x4 R1 R2 R3 R4 
  rw [if_neg c3]
  by_cases c4 : xs x4.toNatClampNeg &&& (31 : Int32) = (4 : Int32)
  · rw [if_pos c4]
    exact st_278 L xs v0 v1 v2 v3 v4 v5 v6 vh vr v7 v8 v9 v10 v11 v12 v13 v14 v15 u0 u1 u2 u3 u4 u5 u6 u7 u8 vo x4 R1 R2 R3 R4 h1
  rw [if_neg c4]
  by_cases c5 : xs x4.toNatClampNeg &&& (31 : Int32) = (5 : Int32)
  · rw [if_pos c5]
    exact st_334 L xs v0 v1 v2 v3 v4 v5 v6 vh vr v7 v8 v9 v10 v11 v12 v13 v14 v15 u0 u1 u2 u3 u4 u5 u6 u7 u8 vo x4 R1 R2 R3 R4 h1
  rw [if_neg c5]
  by_cases c6 : xs x4.toNatClampNeg &&& (31 : Int32) = (6 : Int32)
  · rw [if_pos c6]
    exact st_390 L xs v0 v1 v2 v3 v4 v5 v6 vh vr v7 v8 v9 v10 v11 v12 v13 v14 v15 u0 u1 u2 u3 u4 u5 u6 u7 u8 vo x4 R1 R2 R3 R4 
  rw [if_neg c6]
  by_cases c7 : xs x4.toNatClampNeg &&& (31 : Int32) = (7 : Int32)
  · rw [if_pos c7]
    exact st_403 L xs v0 v1 v2 v3 v4 v5 v6 vh vr v7 v8 v9 v10 v11 v12 v13 v14 v15 u0 u1 u2 u3 u4 u5 u6 u7 u8 vo x4 R1 R2 R3 R4 h1
  rw [if_neg c7]
  by_cases c8 : xs x4.toNatClampNeg &&& (31 : Int32) = (8 : Int32)
  · rw [if_pos c8]
    exact st_459 L xs v0 v1 v2 v3 v4 v5 v6 vh vr v7 v8 v9 v10 v11 v12 v13 v14 v15 u0 u1 u2 u3 u4 u5 u6 u7 u8 vo x4 R1 R2 R3 R4 h1 h2
  rw [if_neg c8]
  by_cases c9 : xs x4.toNatClampNeg &&& (31 : Int32) = (9 : Int32)
  · rw [if_pos c9]
    exact st_527 L xs v0 v1 v2 v3 v4 v5 v6 vh vr v7 v8 v9 v10 v11 v12 v13 v14 v15 u0 u1 u2 u3 u4 u5 u6 u7 u8 vo x4 R1 R2 R3 R4 h1 h2
  rw [if_neg c9]
  by_cases c10 : xs x4.toNatClampNeg &&& (31 : Int32) = (10 : Int32)
  · rw [if_pos c10]
    exact st_595 L xs v0 v1 v2 v3 v4 v5 v6 vh vr v7 v8 v9 v10 v11 v12 v13 v14 v15 u0 u1 u2 u3 u4 u5 u6 u7 u8 vo x4 R1 R2 R3 R4 h1 h2
  rw [if_neg c10]
  by_cases c11 : xs x4.toNatClampNeg &&& (31 : Int32) = (11 : Int32)
  · rw [if_pos c11]
    exact st_663 L xs v0 v1 v2 v3 v4 v5 v6 vh vr v7 v8 v9 v10 v11 v12 v13 v14 v15 u0 u1 u2 u3 u4 u5 u6 u7 u8 vo x4 R1 R2 R3 R4 h1 h2
  rw [if_neg c11]
  by_cases c12 : xs x4.toNatClampNeg &&& (31 : Int32) = (12 : Int32)
  · rw [if_pos c12]
    exact st_731 L xs v0 v1 v2 v3 v4 v5 v6 vh vr v7 v8 v9 v10 v11 v12 v13 v14 v15 u0 u1 u2 u3 u4 u5 u6 u7 u8 vo x4 R1 R2 R3 R4 h1 h2
  rw [if_neg c12]
  by_cases c13 : xs x4.toNatClampNeg &&& (31 : Int32) = (13 : Int32)
  · rw [if_pos c13]
    exact st_815 L xs v0 v1 v2 v3 v4 v5 v6 vh vr v7 v8 v9 v10 v11 v12 v13 v14 v15 u0 u1 u2 u3 u4 u5 u6 u7 u8 vo x4 R1 R2 R3 R4 h1
  rw [if_neg c13]
  by_cases c14 : xs x4.toNatClampNeg &&& (31 : Int32) = (14 : Int32)
  · rw [if_pos c14]
    exact st_871 L xs v0 v1 v2 v3 v4 v5 v6 vh vr v7 v8 v9 v10 v11 v12 v13 v14 v15 u0 u1 u2 u3 u4 u5 u6 u7 u8 vo x4 R1 R2 R3 R4 
  rw [if_neg c14]
  by_cases c15 : xs x4.toNatClampNeg &&& (31 : Int32) = (15 : Int32)
  · rw [if_pos c15]
    exact st_915 L xs v0 v1 v2 v3 v4 v5 v6 vh vr v7 v8 v9 v10 v11 v12 v13 v14 v15 u0 u1 u2 u3 u4 u5 u6 u7 u8 vo x4 R1 R2 R3 R4 
  rw [if_neg c15]
  by_cases c16 : xs x4.toNatClampNeg &&& (31 : Int32) = (16 : Int32)
  · rw [if_pos c16]
    exact st_959 L xs v0 v1 v2 v3 v4 v5 v6 vh vr v7 v8 v9 v10 v11 v12 v13 v14 v15 u0 u1 u2 u3 u4 u5 u6 u7 u8 vo x4 R1 R2 R3 R4 h1 h2 h3
  rw [if_neg c16]
  by_cases c17 : xs x4.toNatClampNeg &&& (31 : Int32) = (17 : Int32)
  · rw [if_pos c17]
    exact st_1039 L xs v0 v1 v2 v3 v4 v5 v6 vh vr v7 v8 v9 v10 v11 v12 v13 v14 v15 u0 u1 u2 u3 u4 u5 u6 u7 u8 vo x4 R1 R2 R3 R4 hL1 hL2 h1 h2
  rw [if_neg c17]
  by_cases c18 : xs x4.toNatClampNeg &&& (31 : Int32) = (18 : Int32)
  · rw [if_pos c18]
    exact st_1107 L xs v0 v1 v2 v3 v4 v5 v6 vh vr v7 v8 v9 v10 v11 v12 v13 v14 v15 u0 u1 u2 u3 u4 u5 u6 u7 u8 vo x4 R1 R2 R3 R4 
  rw [if_neg c18]
  by_cases c19 : xs x4.toNatClampNeg &&& (31 : Int32) = (19 : Int32)
  · rw [if_pos c19]
    exact st_1120 L xs v0 v1 v2 v3 v4 v5 v6 vh vr v7 v8 v9 v10 v11 v12 v13 v14 v15 u0 u1 u2 u3 u4 u5 u6 u7 u8 vo x4 R1 R2 R3 R4 
  rw [if_neg c19]
  by_cases c20 : xs x4.toNatClampNeg &&& (31 : Int32) = (20 : Int32)
  · rw [if_pos c20]
    exact st_1133 L xs v0 v1 v2 v3 v4 v5 v6 vh vr v7 v8 v9 v10 v11 v12 v13 v14 v15 u0 u1 u2 u3 u4 u5 u6 u7 u8 vo x4 R1 R2 R3 R4 h1 h2
  rw [if_neg c20]
  by_cases c21 : xs x4.toNatClampNeg &&& (31 : Int32) = (21 : Int32)
  · rw [if_pos c21]
    exact st_1201 L xs v0 v1 v2 v3 v4 v5 v6 vh vr v7 v8 v9 v10 v11 v12 v13 v14 v15 u0 u1 u2 u3 u4 u5 u6 u7 u8 vo x4 R1 R2 R3 R4 h1 h2 h3
  rw [if_neg c21]
  by_cases c22 : xs x4.toNatClampNeg &&& (31 : Int32) = (22 : Int32)
  · rw [if_pos c22]
    exact st_1301 L xs v0 v1 v2 v3 v4 v5 v6 vh vr v7 v8 v9 v10 v11 v12 v13 v14 v15 u0 u1 u2 u3 u4 u5 u6 u7 u8 vo x4 R1 R2 R3 R4 h1 h2 h3
  rw [if_neg c22]
  by_cases c23 : xs x4.toNatClampNeg &&& (31 : Int32) = (23 : Int32)
  · rw [if_pos c23]
    exact st_1401 L xs v0 v1 v2 v3 v4 v5 v6 vh vr v7 v8 v9 v10 v11 v12 v13 v14 v15 u0 u1 u2 u3 u4 u5 u6 u7 u8 vo x4 R1 R2 R3 R4 h1
  rw [if_neg c23]
  by_cases c24 : xs x4.toNatClampNeg &&& (31 : Int32) = (24 : Int32)
  · rw [if_pos c24]
    exact st_1457 L xs v0 v1 v2 v3 v4 v5 v6 vh vr v7 v8 v9 v10 v11 v12 v13 v14 v15 u0 u1 u2 u3 u4 u5 u6 u7 u8 vo x4 R1 R2 R3 R4 h1
  rw [if_neg c24]
  exact ⟨_, rfl, rfl, R1, R2, R3, R4⟩
theorem sub4 {L i : Nat} (hL : L ≤ 2048) (hi : i < 4096) (h : ¬ Int32.ofNat L - (4 : Int32) < i3 i) : i + 4 ≤ L := by
  by_cases h4 : 4 ≤ L
  · have e : Int32.ofNat L - (4 : Int32) = i3 (L - 4) := i3_sub (a := L) (b := 4) h4
    rw [e, i3_lt (by omega) (by omega)] at h
    omega
  · have hneg : ∀ L, L < 4 → Int32.ofNat L - (4 : Int32) < 0 := by decide
    have h5 := hneg L (by omega)
    have h6 : (0 : Int32) ≤ i3 i := (nn_iff _).mp (i3_nn (by omega))
    rw [Int32.lt_iff_toInt_lt] at h5 h
    rw [Int32.le_iff_toInt_le] at h6
    omega
theorem run_L {L : Nat} {xs v14 v15 : Fn} (hL : L ≤ 2048) (hL1 : LsR v14 12 1) (hL2 : LsR v15 66 2) : ∀ (N i : Nat) (z : lawS), z.1 = i3 i → i ≤ L → L + 4 ≤ i + 4 * N → RelZ z → ∃ r, itl (f_L_law_B23 L xs v14 v15) N z = some r := by
  intro N
  induction N with
  | zero => intro i z h1 h2 h3; omega
  | succ N ih =>
    intro i z hz hi hN hR
    by_cases hlt : Int32.ofNat L - (4 : Int32) < z.1
    · have e : f_L_law_B23 L xs v14 v15 z = some (.inr z.2) := by
        unfold f_L_law_B23
        exact if_pos hlt
      refine ⟨z.2, ?_⟩
      show (f_L_law_B23 L xs v14 v15 z).bind _ = _
      rw [e]
      rfl
    · have hlt' := hlt
      rw [hz] at hlt'
      have h4 := sub4 hL (show i < 4096 by omega) hlt'
      have hA : ∀ j, j < 4 → ¬ (z.1 + i3 j < 0 ∨ L ≤ (z.1 + i3 j).toNatClampNeg) := fun j hj => by
        rw [hz, i3_add]
        exact i3_in (by omega) (by omega)
      have h0 : ¬ (z.1 < 0 ∨ L ≤ z.1.toNatClampNeg) := by
        rw [hz]
        exact i3_in (by omega) (by omega)
      obtain ⟨z', e1, e2, e3⟩ := turn_L (xs := xs) hL1 hL2 z hR hlt h0 (hA 1 (by decide)) (hA 2 (by decide)) (hA 3 (by decide))
      obtain ⟨r, hr⟩ := ih (i + 4) z' (by rw [e2, hz]; exact i3_add i 4) (by omega) (by omega) e3
      refine ⟨r, ?_⟩
      show (f_L_law_B23 L xs v14 v15 z).bind _ = _
      rw [e1]
      exact hr
theorem pure_run {L : Nat} (hL : L ≤ 2048) (xs : Fn) : lawRuns L xs := by
  obtain ⟨w12, a1, a2⟩ := w12_LsR
  obtain ⟨w66, b1, b2⟩ := w66_LsR
  obtain ⟨tb', su', r', c1, c2, c3⟩ := reset_eq (0, 0, 0, 0, 0, 0, 0, (fun _ => (0 : Int32))) (fun _ => (0 : Int32)) (fun _ => (0 : Int32))
  have hR : RelZ (lawZ (tb', su') r') := ⟨⟨0, rfl, rfl, by decide, fun i hi => absurd hi (Nat.not_lt_zero i)⟩, ⟨9, 0, c3⟩, his_clear _ _, ⟨⟨fun _ => rfl, fun _ => rfl⟩, fun z => absurd rfl z, ⟨fun _ => rfl, fun _ => rfl⟩, fun z => absurd rfl z⟩⟩
  obtain ⟨r, hr⟩ := run_L (xs := xs) hL a2 b2 520 0 (lawZ (tb', su') r') rfl (Nat.zero_le L) (by omega) hR
  exact ⟨w12, w66, (tb', su'), r', r, a1, b1, c1, c2, hr⟩
