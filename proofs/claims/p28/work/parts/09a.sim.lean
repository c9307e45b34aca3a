/-! ===== simulations ===== -/
theorem ushr33 (y : Int64) : ∃ k : Nat, k < 2 ^ 31 ∧ ((y.toUInt64 >>> ((33 : Int32).toInt64.toUInt64 &&& Int64.toUInt64 63)).toInt64).toInt32 = i3 k := by
  have hs : ((33 : Int32).toInt64.toUInt64 &&& Int64.toUInt64 63) = 33 := by decide
  rw [hs]
  have hv : (y.toUInt64 >>> (33 : UInt64)).toNat < 2 ^ 31 := by
    rw [UInt64.toNat_shiftRight]
    have h33 : (33 : UInt64).toNat % 64 = 33 := by decide
    rw [h33, Nat.shiftRight_eq_div_pow]
    have := y.toUInt64.toNat_lt
    omega
  refine ⟨(y.toUInt64 >>> (33 : UInt64)).toNat, hv, ?_⟩
  generalize y.toUInt64 >>> (33 : UInt64) = u at hv
  apply Int32.toBitVec_inj.1
  apply BitVec.eq_of_toNat_eq
  show (BitVec.signExtend 32 u.toBitVec).toNat = (BitVec.ofNat 32 u.toNat).toNat
  rw [BitVec.signExtend_eq_setWidth_of_le _ (by decide), BitVec.toNat_setWidth, BitVec.toNat_ofNat]
  rfl
theorem blame_turn {tb : TBv} {su r : Fn} {c m : Nat} (h : TabR c m tb su r) (sc : SCv) (x : Int32) (y : Bool) : ∃ tb' r', f_X7_takeTurn_b131 tb su sc y x = some (tb', su, sc) ∧ f_X8_turn_b152 r y x = some r' ∧ TabX tb' su r' := by
  obtain ⟨d, tb', r', k1, k2, k3⟩ := blameCoin_eq h x y
  unfold f_X7_takeTurn_b131 f_X8_turn_b152
  rw [k1, k2]
  exact ⟨tb', r', rfl, rfl, c, m, k3⟩
theorem okA_1 {n : Nat} (h : n < 20) : okA ((1 : Int32) + i3 n) := by
  have e : (1 : Int32) + i3 n = i3 (1 + n) := i3_add 1 n
  rw [e]
  exact ⟨(i3_le (by decide : 1 < 2 ^ 31) (by omega)).mpr (by omega), (i3_le (by omega) (by decide : 20 < 2 ^ 31)).mpr (by omega)⟩
theorem arms_turn {tb : TBv} {su r : Fn} {c m : Nat} (h : TabR c m tb su r) (sc : SCv) {x y : Int32} (hx : okA x ∧ okA y) : ∃ tb' r', (f_X4_tryArms tb x y).bind (fun q => some (q.2, su, sc)) = some (tb', su, sc) ∧ (f_X8_armsOn r x y).bind (fun q => some q.2) = some r' ∧ TabX tb' su r' := by
  obtain ⟨tb', r', k1, k2, k3⟩ := tryArms_yes h hx
  rw [k1, k2]
  exact ⟨tb', r', rfl, rfl, c, m, k3⟩
theorem turn_both {tb : TBv} {su r : Fn} {c m k : Nat} (h : TabR c m tb su r) (sc : SCv) (hk : k < 2 ^ 31) : ∃ tb' su' sc' r', f_X7_takeTurn tb su sc (i3 k) = some (tb', su', sc') ∧ f_X8_turn r (i3 k) = some r' ∧ TabX tb' su' r' := by
  have n0 : (0 : Int32).toNatClampNeg = 0 := by decide
  have n4 : (4 : Int32).toNatClampNeg = 4 := by decide
  have h8 : i3 k / (8 : Int32) = i3 (k / 8) := i3_div hk (by decide : 8 < 2 ^ 31)
  have hq : k / 8 < 2 ^ 31 := by omega
  have h20 : i3 (k / 8) - i3 (k / 8) / (20 : Int32) * (20 : Int32) = i3 (k / 8 % 20) := i3_mod hq (by decide : 20 < 2 ^ 31)
  have h32 : i3 (k / 8) / (32 : Int32) = i3 (k / 8 / 32) := i3_div hq (by decide : 32 < 2 ^ 31)
  have h32m : i3 (k / 8 / 32) - i3 (k / 8 / 32) / (20 : Int32) * (20 : Int32) = i3 (k / 8 / 32 % 20) := i3_mod (by omega) (by decide : 20 < 2 ^ 31)
  unfold f_X7_takeTurn f_X8_turn f_X8_turn_b29 f_X8_turn_b48
  rw [n0, h.1.2.2.2.1, h.2.1.1]
  by_cases r0 : i3 k - i3 k / (8 : Int32) * (8 : Int32) = (0 : Int32)
  · rw [if_pos r0, if_pos r0]
    unfold f_X8_turn_b70 f_X8_turn_b90
    rw [h8]
    by_cases q3 : i3 (k / 8) - i3 (k / 8) / (3 : Int32) * (3 : Int32) = 0
    · rw [if_pos q3, if_pos q3, if_pos q3, h20, h32, h32m]
      obtain ⟨tb', r', k1, k2, k3⟩ := arms_turn h sc (x := (1 : Int32) + i3 (k / 8 % 20)) (y := (1 : Int32) + i3 (k / 8 / 32 % 20)) ⟨okA_1 (Nat.mod_lt _ (by decide)), okA_1 (Nat.mod_lt _ (by decide))⟩
      exact ⟨tb', su, sc, r', k1, k2, k3⟩
    · rw [if_neg q3, if_neg q3, if_neg q3]
      obtain ⟨tb', r', k1, k2, k3⟩ := arms_turn h sc (x := (10 : Int32)) (y := (10 : Int32)) ⟨⟨by decide, by decide⟩, ⟨by decide, by decide⟩⟩
      exact ⟨tb', su, sc, r', k1, k2, k3⟩
  · rw [if_neg r0, if_neg r0]
    by_cases r1 : i3 k - i3 k / (8 : Int32) * (8 : Int32) = (1 : Int32)
    · rw [if_pos r1, if_pos r1, n4]
      obtain ⟨d, tb', su', sc', z1, z2⟩ := tryF_both h sc
      rw [z1, Option.bind_some]
      rcases z2 with ⟨rfl, z3, z4⟩ | ⟨rfl, z3, o, r', z4, z5, z6⟩
      · rw [if_pos z3]
        exact ⟨tb', su', sc', r, rfl, rfl, z4⟩
      · rw [if_neg z3, z4, Option.bind_some]
        exact ⟨tb', su', sc', r', rfl, rfl, z6⟩
    · rw [if_neg r1, if_neg r1]
      by_cases r2 : i3 k - i3 k / (8 : Int32) * (8 : Int32) = (2 : Int32)
      · rw [if_pos r2, if_pos r2]
        obtain ⟨d, x1, y1, -⟩ := hasCoin_eq h (i3 k / (8 : Int32) - i3 k / (8 : Int32) / (12 : Int32) * (12 : Int32))
        rw [x1, y1, Option.bind_some, Option.bind_some]
        cases d
        · rw [if_pos bfF, if_pos bfF]
          exact ⟨tb, su, sc, r, rfl, rfl, c, m, h⟩
        · rw [if_neg bfT, if_neg bfT]
          by_cases hh : i3 k / (8 : Int32) / (16 : Int32) - i3 k / (8 : Int32) / (16 : Int32) / (2 : Int32) * (2 : Int32) = (1 : Int32)
          · rw [if_pos hh, if_pos hh]
            obtain ⟨tb', r', k1, k2, k3⟩ := blame_turn h sc (i3 k / (8 : Int32) - i3 k / (8 : Int32) / (12 : Int32) * (12 : Int32)) true
            exact ⟨tb', su, sc, r', k1, k2, k3⟩
          · rw [if_neg hh, if_neg hh]
            obtain ⟨tb', r', k1, k2, k3⟩ := blame_turn h sc (i3 k / (8 : Int32) - i3 k / (8 : Int32) / (12 : Int32) * (12 : Int32)) false
            exact ⟨tb', su, sc, r', k1, k2, k3⟩
      · rw [if_neg r2, if_neg r2]
        unfold f_X7_takeTurn_b159 f_X7_takeTurn_b177
        generalize (i3 k / (8 : Int32) - i3 k / (8 : Int32) / (4096 : Int32) * (4096 : Int32)) &&& ((1 : Int32) <<< (i3 c &&& 31) - (1 : Int32)) = A
        generalize ((i3 k / (8 : Int32) / (4096 : Int32) - i3 k / (8 : Int32) / (4096 : Int32) / (4096 : Int32) * (4096 : Int32)) &&& ((1 : Int32) <<< (i3 c &&& 31) - (1 : Int32))) &&& (A ^^^ (-1 : Int32)) = B
        obtain ⟨d, tb', su', sc', k1, k2, k3⟩ := tryW_both h sc A B
        rw [k1, k2, Option.bind_some, Option.bind_some]
        rcases k3 with ⟨rfl, k3⟩ | ⟨rfl, o, r', k4, k5, k6⟩
        · rw [if_pos bfF]
          exact ⟨tb', su', sc', r, rfl, rfl, k3⟩
        · rw [if_neg bfT, k4]
          exact ⟨tb', su', sc', r', rfl, rfl, k6⟩
theorem sim_loop {M : Nat} (hM : M ≤ 60) {tb : TBv} {su r : Fn} (h : TabX tb su r) (sc : SCv) (v1 : TBv) (v2 : Fn) (v0 : MOv) (w2 : Fn) (y : Int64) : ∃ e1 e2, itl (f_X7_simulate_B39 v1 v2 (i3 M)) FU (y, (0 : Int32), tb, su, sc) = some e1 ∧ itl (f_X8_simulate_B45 v0 w2 (i3 M)) FU (y, (0 : Int32), r) = some e2 ∧ TabX e1.1 e1.2.1 e2 := by
  refine itl_pair (fun k (z1 : Int64 × Int32 × TBv × Fn × SCv) (z2 : Int64 × Int32 × Fn) => ∃ i, i ≤ M ∧ k = M - i ∧ z1.2.1 = i3 i ∧ z2.2.1 = i3 i ∧ z1.1 = z2.1 ∧ TabX z1.2.2.1 z1.2.2.2.1 z2.2.2) (fun (e1 : TBv × Fn × SCv) (e2 : Fn) => TabX e1.1 e1.2.1 e2) ?_ FU M _ _ (by unfold FU; omega) ⟨0, Nat.zero_le M, rfl, rfl, rfl, rfl, h⟩
  rintro k ⟨y1, x1, tb, su, sc⟩ ⟨y2, x2, r⟩ ⟨i, hi, rfl, e1, e2, e3, e4⟩
  have e1 : x1 = i3 i := e1
  have e2 : x2 = i3 i := e2
  have e3 : y1 = y2 := e3
  have e4 : TabX tb su r := e4
  subst e1
  subst e2
  subst e3
  by_cases hin : i = M
  · subst hin
    have hle : i3 i ≤ i3 i := (i3_le (by omega) (by omega)).mpr (Nat.le_refl _)
    refine Or.inl ⟨(tb, su, sc), r, ?_, ?_, e4⟩
    · unfold f_X7_simulate_B39
      exact if_pos hle
    · unfold f_X8_simulate_B45
      exact if_pos hle
  · have hn : ¬ i3 M ≤ i3 i := by rw [i3_le (by omega) (by omega)]; omega
    obtain ⟨c, m, hT⟩ := e4
    obtain ⟨k, hk, ek⟩ := ushr33 ((y1 * (6364136223846793005 : Int64)) + (1442695040888963407 : Int64))
    obtain ⟨tb', su', sc', r', k1, k2, k3⟩ := turn_both hT sc hk
    refine Or.inr ⟨(y1 * (6364136223846793005 : Int64) + (1442695040888963407 : Int64), i3 i + (1 : Int32), tb', su', sc'), (y1 * (6364136223846793005 : Int64) + (1442695040888963407 : Int64), i3 i + (1 : Int32), r'), M - (i + 1), by omega, ?_, ?_, i + 1, by omega, rfl, i3_add i 1, i3_add i 1, rfl, k3⟩
    · unfold f_X7_simulate_B39
      rw [if_neg hn, ek, k1, Option.bind_some]
    · unfold f_X8_simulate_B45
      rw [if_neg hn, ek, k2, Option.bind_some]
theorem sim_eq {tb : TBv} {su r : Fn} (h : TabX tb su r) (t4 : TBv) (t5 : Fn) (t6 : SCv) (vo : FnL) (u0 : MOv) (u3 : Fn) (p1 : Int64) (p2 : Int32) : ∃ k t4' t5' t6' w b u3', f_W_simulate tb su t4 t5 t6 vo p1 p2 = some (k, t4', t5', t6', w) ∧ f_X8_simulate u0 r u3 p1 p2 = some (b, mK u0 k, u3') ∧ (k = 0 → w 0 = b.toInt64) := by
  have hin1 : f_X8_in p2.toInt64 (1 : Int64) (60 : Int64) = _ := in32 p2 1 60
  by_cases hok : (1 : Int32) ≤ p2 ∧ p2 ≤ (60 : Int32)
  · have c1 : ¬ p2 < (1 : Int32) := (lt_iff _ _).mpr hok.1
    obtain ⟨M, hM, rfl⟩ := i3_of (x := p2) (by
      have h1 := hok.1
      rw [Int32.le_iff_toInt_le] at h1 ⊢
      have e1 : (1 : Int32).toInt = 1 := by decide
      have e0 : (0 : Int32).toInt = 0 := by decide
      omega)
    have hM60 : M ≤ 60 := (i3_le hM (by decide : 60 < 2 ^ 31)).mp hok.2
    obtain ⟨tb', su', k1, k2⟩ := cpT h t4 t5
    obtain ⟨k3, k4⟩ := cp107 k2 u3
    obtain ⟨e1, e2, l1, l2, c, m, l3⟩ := sim_loop hM60 k4 t6 tb su (mK u0 0) r p1
    obtain ⟨n, -, z1, z2, -⟩ := left_both l3
    have n4 : (4 : Int32).toNatClampNeg = 4 := by decide
    refine ⟨0, e1.1, e1.2.1, e1.2.2, _, (1000 : Int32) * i3 m + i3 n, e2, ?_, ?_, fun _ => vo_0 vo _⟩
    · unfold f_W_simulate f_X7_simulate
      rw [if_neg c1, if_pos hok.2, k1, Option.bind_some, l1, Option.bind_some, z1, Option.bind_some, l3.2.1.2.2.2.2.2.2]
      rfl
    · unfold f_X8_simulate f_X8_simulate_b18
      rw [hin1, Option.bind_some, decide_eq_true hok, if_neg bfT, refuseB, Option.bind_some, if_pos bfF, k3, Option.bind_some]
      show (itl (f_X8_simulate_B45 (mK u0 0) r (i3 M)) FU (p1, (0 : Int32), cpR r u3 0 0 107)).bind _ = _
      rw [l2, Option.bind_some, z2, Option.bind_some, n4, l3.1.2.2.2.2]
      rfl
  · refine ⟨1, t4, t5, t6, vo, 0, u3, ?_, ?_, fun z => absurd z (by decide)⟩
    · unfold f_W_simulate f_X7_simulate f_X7_simulate_b11
      by_cases c1 : p2 < (1 : Int32)
      · rw [if_pos c1]
        rfl
      · rw [if_neg c1, if_neg (fun z => hok ⟨(lt_iff _ _).mp c1, z⟩)]
        rfl
    · unfold f_X8_simulate f_X8_simulate_b18
      rw [hin1, Option.bind_some, decide_eq_false hok, if_pos bfF, refuseB, Option.bind_some, if_neg bfT]
      rfl
