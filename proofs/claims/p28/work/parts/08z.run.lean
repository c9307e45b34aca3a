/-! ===== scripts ===== -/
theorem itl_term {S E : Type} {f : S → Option (S ⊕ E)} (I : Nat → S → Prop) (hs : ∀ n z, I n z → (∃ e, f z = some (.inr e)) ∨ (∃ z' k, k < n ∧ f z = some (.inl z') ∧ I k z')) {n : Nat} {z : S} (hn : n < FU) (hI : I n z) : ∃ e, itl f FU z = some e := by
  obtain ⟨e, -, h, -, -⟩ := itl_pair (f := f) (g := f) (fun n a b => a = b ∧ I n a) (fun _ _ => True) (fun n a b hab => by
    obtain ⟨rfl, h⟩ := hab
    rcases hs n a h with ⟨e, h1⟩ | ⟨z', k, h1, h2, h3⟩
    · exact Or.inl ⟨e, e, h1, h1, trivial⟩
    · exact Or.inr ⟨z', z', k, h1, h2, h2, rfl, h3⟩) FU n z z hn ⟨rfl, hI⟩
  exact ⟨e, h⟩
theorem pow5_lt {n : Nat} (h : n ≤ 3) : 100000 ^ n < 2 ^ 62 := Nat.lt_of_le_of_lt (Nat.pow_le_pow_right (by decide) h) (by decide)
theorem pow5_pos (n : Nat) : 0 < 100000 ^ n := Nat.pow_pos (by decide)
theorem rs_all {n : Nat} (h3 : n ≤ 3) (v0 : MOv) (v2 v3 : Fn) (p2 : Int64) : itl (f_X8_runScript_B6 v0 v2 v3 (i3 n) p2) FU ((1 : Int64), (0 : Int32)) = some (i6 (100000 ^ n)) := by
  have hl := itl_for (f := f_X8_runScript_B6 v0 v2 v3 (i3 n) p2) (fun i => (i6 (100000 ^ i), i3 i)) n (e := i6 (100000 ^ n)) (by unfold FU; omega) (fun i hi => by
    unfold f_X8_runScript_B6
    rw [if_neg (by rw [i3_le (by omega) (by omega)]; omega), if_neg (by show ¬ i3 3 ≤ i3 i; rw [i3_le (by decide) (by omega)]; omega)]
    show some (Sum.inl (i6 (100000 ^ i) * i6 100000, i3 i + i3 1)) = _
    rw [i6_mul, i3_add, Nat.pow_succ]) (by
    unfold f_X8_runScript_B6
    exact if_pos ((i3_le (by omega) (by omega)).mpr (Nat.le_refl _)))
  exact hl
theorem rs_any (v0 : MOv) (v2 v3 : Fn) (p1 : Int32) (p2 : Int64) : ∃ e, itl (f_X8_runScript_B6 v0 v2 v3 p1 p2) FU ((1 : Int64), (0 : Int32)) = some e := by
  refine itl_term (fun n (z : Int64 × Int32) => ∃ j, j ≤ 3 ∧ n = 3 - j ∧ z.2 = i3 j) ?_ (n := 3) (by decide) ⟨0, by decide, rfl, rfl⟩
  rintro n ⟨x, y⟩ ⟨j, hj, rfl, hy⟩
  have hy : y = i3 j := hy
  subst hy
  unfold f_X8_runScript_B6
  by_cases h1 : p1 ≤ i3 j
  · rw [if_pos h1]; exact Or.inl ⟨_, rfl⟩
  · rw [if_neg h1]
    by_cases h2 : (3 : Int32) ≤ i3 j
    · rw [if_pos h2]; exact Or.inl ⟨_, rfl⟩
    · rw [if_neg h2]
      have h2' : ¬ 3 ≤ j := fun z => h2 ((i3_le (by decide : 3 < 2 ^ 31) (by omega)).mpr z)
      exact Or.inr ⟨_, 3 - (j + 1), by omega, rfl, j + 1, by omega, rfl, i3_add j 1⟩
theorem rs_loop {n s : Nat} (h3 : n ≤ 3) (hs : s < 2 ^ 63) {tb : TBv} {su r : Fn} (h : TabX tb su r) (sc : SCv) (v1 : TBv) (v2 : Fn) (v0 : MOv) (w2 : Fn) : ∃ e1 e2, itl (f_X7_runScript_B62 v1 v2 (i3 n) (i6 s)) FU ((0 : Int32), tb, su, sc) = some e1 ∧ itl (f_X8_runScript_B86 v0 w2 (i3 n) (i6 s)) FU (i6 (100000 ^ n), (0 : Int32), r) = some e2 ∧ ((∃ a b, e1 = .inl a ∧ e2 = .inl b ∧ a.1 = b.1) ∨ (∃ a b, e1 = .inr a ∧ e2 = .inr b)) := by
  refine itl_pair (fun k (z1 : Int32 × TBv × Fn × SCv) (z2 : Int64 × Int32 × Fn) => ∃ i, i ≤ n ∧ k = n - i ∧ z1.1 = i3 i ∧ z2.2.1 = i3 i ∧ z2.1 = i6 (100000 ^ (n - i)) ∧ TabX z1.2.1 z1.2.2.1 z2.2.2) (fun (e1 : (Int32 × TBv × Fn × SCv) ⊕ (TBv × Fn × SCv)) (e2 : (Int32 × Fn) ⊕ Fn) => (∃ a b, e1 = .inl a ∧ e2 = .inl b ∧ a.1 = b.1) ∨ (∃ a b, e1 = .inr a ∧ e2 = .inr b)) ?_ FU n _ _ (by unfold FU; omega) ⟨0, Nat.zero_le n, rfl, rfl, rfl, rfl, h⟩
  rintro k ⟨x1, tb, su, sc⟩ ⟨all, x2, r⟩ ⟨i, hi, rfl, e1, e2, e3, e4⟩
  have e1 : x1 = i3 i := e1
  have e2 : x2 = i3 i := e2
  have e3 : all = i6 (100000 ^ (n - i)) := e3
  have e4 : TabX tb su r := e4
  subst e1
  subst e2
  subst e3
  by_cases hin : i = n
  · subst hin
    have hle : i3 i ≤ i3 i := (i3_le (by omega) (by omega)).mpr (Nat.le_refl _)
    refine Or.inl ⟨.inr (tb, su, sc), .inr r, ?_, ?_, Or.inr ⟨_, _, rfl, rfl⟩⟩
    · unfold f_X7_runScript_B62
      exact if_pos hle
    · unfold f_X8_runScript_B86
      exact if_pos hle
  · have hn : ¬ i3 n ≤ i3 i := by rw [i3_le (by omega) (by omega)]; omega
    obtain ⟨c, m, hT⟩ := e4
    have hp := pow5_lt (show n - i ≤ 3 by omega)
    have hp1 := pow5_lt (show n - 1 - i ≤ 3 by omega)
    have hp0 := pow5_pos (n - 1 - i)
    have hk : i3 n - (1 : Int32) - i3 i = i3 (n - 1 - i) := by
      rw [show i3 n - (1 : Int32) = i3 (n - 1) from i3_sub (a := n) (b := 1) (by omega), i3_sub (by omega)]
    have hd : i6 (100000 ^ (n - i)) / (100000 : Int64) = i6 (100000 ^ (n - 1 - i)) := by
      refine (i6_div (by omega) (by decide : 100000 < 2 ^ 63)).trans (congrArg i6 ?_)
      rw [show n - i = (n - 1 - i) + 1 by omega, Nat.pow_succ, Nat.mul_div_cancel _ (by decide)]
    have hq : s / 100000 ^ (n - 1 - i) < 2 ^ 63 := Nat.lt_of_le_of_lt (Nat.div_le_self _ _) hs
    have hne : ¬ i6 (100000 ^ (n - 1 - i)) = 0 := fun z => by
      have := (i6_eq (b := 0) (by omega) (by decide)).mp z
      omega
    have hg : (i6 (s / 100000 ^ (n - 1 - i)) - i6 (s / 100000 ^ (n - 1 - i)) / (100000 : Int64) * (100000 : Int64)).toInt32 = i3 (s / 100000 ^ (n - 1 - i) % 100000) := by
      rw [show i6 (s / 100000 ^ (n - 1 - i)) - i6 (s / 100000 ^ (n - 1 - i)) / (100000 : Int64) * (100000 : Int64) = i6 (s / 100000 ^ (n - 1 - i) % 100000) from i6_mod hq (by decide : 100000 < 2 ^ 63), i6_32]
    obtain ⟨d, tb', su', sc', r', k1, k2, k3⟩ := cmd_all hT sc v0 (g := s / 100000 ^ (n - 1 - i) % 100000) (Nat.mod_lt _ (by decide))
    have A1 : f_X7_runScript_B62 v1 v2 (i3 n) (i6 s) (i3 i, tb, su, sc) = if b2i d = 0 then some (.inr (.inl (i3 i, tb', su', sc'))) else some (.inl (i3 i + (1 : Int32), tb', su', sc')) := by
      unfold f_X7_runScript_B62
      rw [if_neg hn, hk, wG_eq hs (by omega), Option.bind_some, hg, k1, Option.bind_some]
    have A2 : f_X8_runScript_B86 v0 w2 (i3 n) (i6 s) (i6 (100000 ^ (n - i)), i3 i, r) = if b2i d = 0 then some (.inr (.inl (i3 i, r'))) else some (.inl (i6 (100000 ^ (n - 1 - i)), i3 i + (1 : Int32), r')) := by
      unfold f_X8_runScript_B86 f_X8_runScript_B86_b111
      rw [if_neg hn, hd, if_neg hne, i6_div hs (by omega), hg, k2, Option.bind_some]
    rw [A1, A2]
    cases d
    · rw [if_pos bfF, if_pos bfF]
      exact Or.inl ⟨_, _, rfl, rfl, Or.inl ⟨_, _, rfl, rfl, rfl⟩⟩
    · rw [if_neg bfT, if_neg bfT]
      refine Or.inr ⟨_, _, n - (i + 1), by omega, rfl, rfl, i + 1, by omega, rfl, i3_add i 1, i3_add i 1, ?_, k3⟩
      exact congrArg (fun z => i6 (100000 ^ z)) (by omega)
abbrev mK (u : MOv) (k : Int32) : MOv := (k, u.2.1, u.2.2.1, u.2.2.2.1, u.2.2.2.2.1, u.2.2.2.2.2)
theorem refuse_no (u : MOv) : f_X8_refused u (0 : Int32) = some (false, mK u 0) := by
  unfold f_X8_refused
  exact if_pos (by decide)
theorem refuse_yes (u : MOv) {k : Int32} (h : ¬ k ≤ 0) : f_X8_refused u k = some (true, mK u k) := by
  unfold f_X8_refused
  exact if_neg h
theorem refuseB (u : MOv) (d : Bool) : f_X8_refused u (b2i d) = some (d, mK u (b2i d)) := by
  cases d
  · exact refuse_no u
  · exact refuse_yes u (by decide)
theorem vo_0 (vo : FnL) (x : Int64) : vp_updL vo (0 : Int32).toNatClampNeg x 0 = x := by
  have n0 : (0 : Int32).toNatClampNeg = 0 := by decide
  rw [n0]
  unfold vp_updL
  exact if_pos rfl
theorem cp107 {tb : TBv} {su r : Fn} (h : TabX tb su r) (u3 : Fn) : f_X8_copyState 107 107 r u3 (0 : Int32) (0 : Int32) = some (cpR r u3 0 0 107) ∧ TabX tb su (cpR r u3 0 0 107) := by
  refine ⟨copyR_eq (p := 0) (q := 0) (by decide) (by decide) (by decide) (by decide), ?_⟩
  obtain ⟨c, m, h⟩ := h
  refine ⟨c, m, h.ext (fun j hj => ?_)⟩
  unfold cpR
  rw [if_pos (by omega)]
  congr 1
  omega
theorem cpT {tb : TBv} {su r : Fn} (h : TabX tb su r) (v0 : TBv) (v1 : Fn) : ∃ tb' su', f_X4_copyFrom v0 v1 tb su = some (tb', su') ∧ TabX tb' su' r := by
  obtain ⟨c, m, h⟩ := h
  obtain ⟨tb', su', k1, k2⟩ := copyT_eq h v0 v1
  exact ⟨tb', su', k1, c, m, k2⟩
theorem runS_eq {tb : TBv} {su r : Fn} (h : TabX tb su r) (t4 : TBv) (t5 : Fn) (t6 : SCv) (vo : FnL) (u0 : MOv) (u3 : Fn) (p1 : Int32) (p2 : Int64) : ∃ k t4' t5' t6' w b u3', f_W_runScript tb su t4 t5 t6 vo p1 p2 = some (k, t4', t5', t6', w) ∧ f_X8_runScript u0 r u3 p1 p2 = some (b, mK u0 k, u3') ∧ (k = 0 → w 0 = b.toInt64) := by
  have hin1 : f_X8_in p1.toInt64 (1 : Int64) (3 : Int64) = _ := in32 p1 1 3
  have bad : ∀ a : Int64, f_X8_runScript_b61 u0 r u3 p1 p2 a = some ((0 : Int32), mK u0 1, u3) := fun a => by
    unfold f_X8_runScript_b61 f_X8_runScript_b62
    rw [refuseB, Option.bind_some, if_neg bfT]
    rfl
  have badC : ∀ x, f_X7_runScript tb su t4 t5 t6 p1 p2 = some (.inr (1, x)) → f_W_runScript tb su t4 t5 t6 vo p1 p2 = some ((1 : Int32), x.1, x.2.1, x.2.2, vo) := fun x hx => by
    unfold f_W_runScript
    rw [hx]
    rfl
  by_cases hok : (1 : Int32) ≤ p1 ∧ p1 ≤ (3 : Int32)
  · obtain ⟨n, hn, rfl⟩ := i3_of (x := p1) (by
      have h1 := hok.1
      rw [Int32.le_iff_toInt_le] at h1 ⊢
      have e1 : (1 : Int32).toInt = 1 := by decide
      have e0 : (0 : Int32).toInt = 0 := by decide
      omega)
    have h1 : 1 ≤ n := (i3_le (by decide : 1 < 2 ^ 31) hn).mp hok.1
    have h3 : n ≤ 3 := (i3_le hn (by decide : 3 < 2 ^ 31)).mp hok.2
    have hp := pow5_lt h3
    have hp0 := pow5_pos n
    have hall := rs_all h3 u0 r u3 p2
    have hsub : i6 (100000 ^ n) - (1 : Int64) = i6 (100000 ^ n - 1) := i6_sub (b := 1) hp0
    have hin2 : f_X8_in p2 (0 : Int64) (i6 (100000 ^ n) - (1 : Int64)) = some (decide ((0 : Int64) ≤ p2 ∧ p2 ≤ i6 (100000 ^ n - 1))) := by rw [hsub, in_eq]
    have c1 : ¬ i3 n < (1 : Int32) := fun z => by
      have := (i3_lt hn (by decide : 1 < 2 ^ 31)).mp z
      omega
    have R1 : f_X8_runScript u0 r u3 (i3 n) p2 = if b2i (decide ((0 : Int64) ≤ p2 ∧ p2 ≤ i6 (100000 ^ n - 1))) = 0 then f_X8_runScript_b61 u0 r u3 (i3 n) p2 (i6 (100000 ^ n)) else f_X8_runScript_b62 u0 r u3 (i3 n) p2 (i6 (100000 ^ n)) false := by
      unfold f_X8_runScript f_X8_runScript_b32
      rw [hall, Option.bind_some, hin1, Option.bind_some, decide_eq_true hok, if_neg bfT, hin2, Option.bind_some]
    by_cases hneg : p2 < 0
    · have hf : ¬ ((0 : Int64) ≤ p2 ∧ p2 ≤ i6 (100000 ^ n - 1)) := fun z => by
        have z1 := z.1
        rw [Int64.le_iff_toInt_le] at z1
        rw [Int64.lt_iff_toInt_lt] at hneg
        omega
      refine ⟨1, t4, t5, t6, vo, 0, u3, badC (t4, t5, t6) ?_, ?_, fun z => absurd z (by decide)⟩
      · unfold f_X7_runScript f_X7_runScript_b37
        rw [if_neg c1, if_pos hok.2, if_pos ((cmp_neg p2 0).mpr hneg)]
      · rw [R1, decide_eq_false hf, if_pos bfF]
        exact bad _
    · obtain ⟨s, hs, rfl⟩ := i6_of (x := p2) (by
        rw [Int64.lt_iff_toInt_lt] at hneg
        rw [Int64.le_iff_toInt_le]
        omega)
      have hq : s / 100000 ^ n < 2 ^ 63 := Nat.lt_of_le_of_lt (Nat.div_le_self _ _) hs
      have hC : f_X7_runScript tb su t4 t5 t6 (i3 n) (i6 s) = if lg_cmp (i6 (s / 100000 ^ n)) (0 : Int64) = 0 then (f_X4_copyFrom t4 t5 tb su).bind (fun q751 => (itl (f_X7_runScript_B62 tb su (i3 n) (i6 s)) FU ((0 : Int32), q751.1, q751.2, t6)).bind (Sum.elim (fun q756e => some (.inl (q756e.1, q756e.2.1, q756e.2.2.1, q756e.2.2.2))) (fun q756e => some (.inl ((-1 : Int32), q756e.1, q756e.2.1, q756e.2.2))))) else f_X7_runScript_b37 tb su t4 t5 t6 := by
        unfold f_X7_runScript
        rw [if_neg c1, if_pos hok.2, if_neg (fun z => hneg ((cmp_neg _ _).mp z)), wG_eq hs (by omega), Option.bind_some]
      have hz : (s / 100000 ^ n = 0) ↔ ((0 : Int64) ≤ i6 s ∧ i6 s ≤ i6 (100000 ^ n - 1)) := by
        rw [Nat.div_eq_zero_iff_lt hp0, Int64.le_iff_toInt_le, Int64.le_iff_toInt_le, i6_int hs, i6_int (show 100000 ^ n - 1 < 2 ^ 63 by omega)]
        have e0 : (0 : Int64).toInt = 0 := by decide
        rw [e0]
        omega
      have hz2 : lg_cmp (i6 (s / 100000 ^ n)) (0 : Int64) = 0 ↔ s / 100000 ^ n = 0 := by
        rw [cmp_zero]
        exact i6_eq (b := 0) hq (by decide)
      by_cases h0 : s / 100000 ^ n = 0
      · obtain ⟨tb', su', k1, k2⟩ := cpT h t4 t5
        obtain ⟨k3, k4⟩ := cp107 k2 u3
        obtain ⟨e1, e2, l1, l2, l3⟩ := rs_loop h3 hs k4 t6 tb su (mK u0 0) r
        rw [if_pos (hz2.mpr h0), k1, Option.bind_some, l1, Option.bind_some] at hC
        rw [decide_eq_true (hz.mp h0), if_neg bfT] at R1
        unfold f_X8_runScript_b62 at R1
        rw [refuseB, Option.bind_some, if_pos bfF] at R1
        have R2 : f_X8_runScript u0 r u3 (i3 n) (i6 s) = Sum.elim (fun q1571e => some (q1571e.1, mK u0 0, q1571e.2)) (fun q1571e => some ((-1 : Int32), mK u0 0, q1571e)) e2 := by
          rw [R1, k3, Option.bind_some]
          show (itl (f_X8_runScript_B86 (mK u0 0) r (i3 n) (i6 s)) FU (i6 (100000 ^ n), (0 : Int32), cpR r u3 0 0 107)).bind _ = _
          rw [l2]
          rfl
        rcases l3 with ⟨a, b, rfl, rfl, l4⟩ | ⟨a, b, rfl, rfl⟩
        · refine ⟨0, a.2.1, a.2.2.1, a.2.2.2, vp_updL vo (0 : Int32).toNatClampNeg a.1.toInt64, b.1, b.2, ?_, R2, fun _ => ?_⟩
          · unfold f_W_runScript
            rw [hC]
            rfl
          · rw [vo_0]
            exact congrArg Int32.toInt64 l4
        · refine ⟨0, a.1, a.2.1, a.2.2, vp_updL vo (0 : Int32).toNatClampNeg (-1 : Int32).toInt64, (-1 : Int32), b, ?_, R2, fun _ => ?_⟩
          · unfold f_W_runScript
            rw [hC]
            rfl
          · rw [vo_0]
      · refine ⟨1, t4, t5, t6, vo, 0, u3, badC (t4, t5, t6) ?_, ?_, fun z => absurd z (by decide)⟩
        · rw [hC, if_neg (fun z => h0 (hz2.mp z))]
          rfl
        · rw [R1, decide_eq_false (fun z => h0 (hz.mpr z)), if_pos bfF]
          exact bad _
  · refine ⟨1, t4, t5, t6, vo, 0, u3, badC (t4, t5, t6) ?_, ?_, fun z => absurd z (by decide)⟩
    · unfold f_X7_runScript f_X7_runScript_b10
      by_cases c1 : p1 < (1 : Int32)
      · rw [if_pos c1]
      · rw [if_neg c1, if_neg (fun z => hok ⟨(lt_iff _ _).mp c1, z⟩)]
    · obtain ⟨e, he⟩ := rs_any u0 r u3 p1 p2
      unfold f_X8_runScript f_X8_runScript_b32
      rw [he, Option.bind_some, hin1, Option.bind_some, decide_eq_false hok, if_pos bfF]
      exact bad _
