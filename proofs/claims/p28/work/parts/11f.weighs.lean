/-! ===== a weighing as it was told, and its undo ===== -/
theorem thr_no {k : Nat} (hk : k < 2 ^ 31) : f_L_thrown (i3 k) = some false := by
  have h : ∀ x : Int32, x < 0 → ¬ i3 k = x := fun x hx e => i3_nn hk (e ▸ hx)
  unfold f_L_thrown
  rw [if_neg (h _ (by decide)), if_neg (h _ (by decide)), if_neg (h _ (by decide))]
def b6 (x : Int64) (j : Nat) : Bool := x.toBitVec.getLsbD j
theorem b6_or (x y : Int64) (j : Nat) : b6 (x ||| y) j = (b6 x j || b6 y j) := by simp [b6]
theorem b6_and (x y : Int64) (j : Nat) : b6 (x &&& y) j = (b6 x j && b6 y j) := by simp [b6]
theorem b6_zero (j : Nat) : b6 0 j = false := by simp [b6]
theorem b6_ge {x : Int64} {j : Nat} (h : 64 ≤ j) : b6 x j = false := BitVec.getLsbD_of_ge _ _ h
theorem b6_ext {x y : Int64} (h : ∀ j, j < 64 → b6 x j = b6 y j) : x = y := by
  apply Int64.toBitVec_inj.1
  exact BitVec.eq_of_getLsbD_eq (fun i hi => h i hi)
theorem b6_one (j : Nat) : b6 1 j = decide (j = 0) := by
  by_cases h : j < 64
  · have : ∀ j : Fin 64, b6 1 j.val = decide (j.val = 0) := by decide +kernel
    exact this ⟨j, h⟩
  · rw [b6_ge (by omega)]
    exact (decide_eq_false (by omega)).symm
theorem b6_shl (p : Bool) {k j : Nat} (hk : k < 60) (hj : j < 64) : b6 ((b2i p).toInt64 <<< ((i3 k).toInt64 &&& 63)) j = (p && decide (j = k)) := by
  have : ∀ p : Bool, ∀ k : Fin 60, ∀ j : Fin 64, b6 ((b2i p).toInt64 <<< ((i3 k.val).toInt64 &&& 63)) j.val = (p && decide (j.val = k.val)) := by decide +kernel
  exact this p ⟨k, hk⟩ ⟨j, hj⟩
theorem b6_shr {x : Int64} {k : Nat} (hk : k < 60) : b6 (x >>> ((i3 k).toInt64 &&& 63)) 0 = b6 x k := by
  have h : ∀ k : Fin 60, (((i3 k.val).toInt64 &&& 63).toBitVec.smod 64).toNat = k.val := by decide +kernel
  have h2 := h ⟨k, hk⟩
  unfold b6
  rw [Int64.toBitVec_shiftRight]
  rw [BitVec.sshiftRight_eq', BitVec.getLsbD_sshiftRight]
  have h3 : (((i3 k).toInt64 &&& 63).toBitVec.smod 64).toNat = k := h2
  simp only [h3]
  simp
  omega
theorem b6_val {x : Int64} {k : Nat} (hk : k < 60) : (x >>> ((i3 k).toInt64 &&& 63)) &&& (1 : Int64) = (b2i (b6 x k)).toInt64 := by
  have h : ∀ (y : Int64) (p : Bool), b6 y 0 = p → y &&& (1 : Int64) = (b2i p).toInt64 := by
    intro y p hp
    refine b6_ext (fun j _ => ?_)
    rw [b6_and, b6_one]
    have hb : ∀ p : Bool, ∀ j : Nat, b6 ((b2i p).toInt64) j = (p && decide (j = 0)) := by
      intro p j
      cases p
      · exact b6_zero j
      · exact (b6_one j).trans (Bool.true_and _).symm
    rw [hb]
    by_cases h0 : j = 0
    · subst h0
      rw [hp]
    · rw [decide_eq_false h0, Bool.and_false, Bool.and_false]
  exact h _ _ (b6_shr hk)
/-- the cases ahead, as bits of two numbers, behind k of them -/
def A6 (P : Nat → Bool) (k : Nat) (x y : Int64) : Prop := (∀ j, j < 60 → b6 x j = (decide (j < k) && P j)) ∧ ∀ j, j < 60 → b6 y j = (decide (60 + j < k) && P (60 + j))
theorem w117 {v w : OBv} {z : RS} {c m : Nat} (R : RelO v z) (hz : ZC z c m) (x2 x3 x5 x6 x7 x8 : Int32) : ∃ v' x y, itl (f_L_weighs_B117 w x2 x3 (i3 (nC c)) x5 x6 x7 x8) 76 ((0 : Int64), (0 : Int64), (0 : Int32), v) = some (x, y, v') ∧ RelO v' z ∧ A6 (PR z.2.1 c m) (nC c) x y := by
  have hc := hz.c
  have h75 := nC_lt (show c < 13 by omega)
  obtain ⟨e, h1, h2, h3⟩ := itl_invN (f := f_L_weighs_B117 w x2 x3 (i3 (nC c)) x5 x6 x7 x8) (fun k (q : Int64 × Int64 × Int32 × OBv) => q.2.2.1 = i3 k ∧ RelO q.2.2.2 z ∧ A6 (PR z.2.1 c m) k q.1 q.2.1) (fun (e : Int64 × Int64 × OBv) => RelO e.2.2 z ∧ A6 (PR z.2.1 c m) (nC c) e.1 e.2.1) (nC c) (by
    rintro k ⟨x, y, k', v⟩ hk ⟨e1, R, hA⟩
    have e1 : k' = i3 k := e1
    subst e1
    have R : RelO v z := R
    obtain ⟨A1, A2⟩ := hA
    have A1 : ∀ j, j < 60 → b6 x j = (decide (j < k) && PR z.2.1 c m j) := A1
    have A2 : ∀ j, j < 60 → b6 y j = (decide (60 + j < k) && PR z.2.1 c m (60 + j)) := A2
    have hn : ¬ i3 (nC c) ≤ i3 k := by rw [i3_le (by omega) (by omega)]; omega
    have h60 : ((60 : Int32) ≤ i3 k) ↔ 60 ≤ k := i3_le (a := 60) (by decide) (by omega)
    obtain ⟨v1, E, R1⟩ := use (call_4 R (i3 k) 0 0) (qu_is hz hk 0 0)
    by_cases hk60 : 60 ≤ k
    · have hs : i3 k - (60 : Int32) = i3 (k - 60) := i3_sub (b := 60) hk60
      refine ⟨(x ||| 0, y ||| ((b2i (PR z.2.1 c m k)).toInt64 <<< ((i3 (k - 60)).toInt64 &&& 63)), i3 k + (1 : Int32), v1), ?_, i3_add k 1, R1, fun j hj => ?_, fun j hj => ?_⟩
      · unfold f_L_weighs_B117 f_L_weighs_B117_b150 f_L_weighs_B117_b182
        show (if i3 (nC c) ≤ i3 k then _ else if (60 : Int32) ≤ i3 k then (if (60 : Int32) ≤ i3 k then (f_O_call v (4 : Int32) (i3 k) (0 : Int32) (0 : Int32)).bind _ else _) else _) = _
        rw [if_neg hn, if_pos (h60.mpr hk60), if_pos (h60.mpr hk60), E, Option.bind_some, hs]
      · show b6 (x ||| 0) j = _
        rw [b6_or, b6_zero, Bool.or_false, A1 j hj, decide_eq_true (show j < k by omega), decide_eq_true (show j < k + 1 by omega)]
      · show b6 (y ||| _) j = _
        rw [b6_or, A2 j hj, b6_shl _ (by omega) (by omega)]
        by_cases h : j = k - 60
        · subst h
          rw [decide_eq_false (show ¬ 60 + (k - 60) < k by omega), decide_eq_true (show 60 + (k - 60) < k + 1 by omega), decide_eq_true rfl, show 60 + (k - 60) = k by omega]
          simp
        · rw [decide_eq_false h]
          by_cases h2 : 60 + j < k
          · rw [decide_eq_true h2, decide_eq_true (show 60 + j < k + 1 by omega)]; simp
          · rw [decide_eq_false h2, decide_eq_false (show ¬ 60 + j < k + 1 by omega)]; simp
    · refine ⟨(x ||| ((b2i (PR z.2.1 c m k)).toInt64 <<< ((i3 k).toInt64 &&& 63)), y ||| 0, i3 k + (1 : Int32), v1), ?_, i3_add k 1, R1, fun j hj => ?_, fun j hj => ?_⟩
      · unfold f_L_weighs_B117 f_L_weighs_B117_b150 f_L_weighs_B117_b182
        show (if i3 (nC c) ≤ i3 k then _ else if (60 : Int32) ≤ i3 k then _ else (f_O_call v (4 : Int32) (i3 k) (0 : Int32) (0 : Int32)).bind _) = _
        rw [if_neg hn, if_neg (fun q => hk60 (h60.mp q)), E, Option.bind_some, if_neg (fun q => hk60 (h60.mp q))]
      · show b6 (x ||| _) j = _
        rw [b6_or, A1 j hj, b6_shl _ (by omega) (by omega)]
        by_cases h : j = k
        · subst h
          rw [decide_eq_false (Nat.lt_irrefl j), decide_eq_true (Nat.lt_succ_self j), decide_eq_true rfl]
          simp
        · rw [decide_eq_false h]
          by_cases h2 : j < k
          · rw [decide_eq_true h2, decide_eq_true (show j < k + 1 by omega)]; simp
          · rw [decide_eq_false h2, decide_eq_false (show ¬ j < k + 1 by omega)]; simp
      · show b6 (y ||| 0) j = _
        rw [b6_or, b6_zero, Bool.or_false, A2 j hj, decide_eq_false (show ¬ 60 + j < k by omega), decide_eq_false (show ¬ 60 + j < k + 1 by omega)]) (by
    rintro ⟨x, y, k', v⟩ ⟨e1, R, hA⟩
    have e1 : k' = i3 (nC c) := e1
    subst e1
    refine ⟨(x, y, v), ?_, R, hA⟩
    unfold f_L_weighs_B117
    exact if_pos ((i3_le (by omega) (by omega)).mpr (Nat.le_refl _))) 76 0 ((0 : Int64), (0 : Int64), (0 : Int32), v) (Nat.zero_le _) ⟨rfl, R, fun j _ => (b6_zero j).trans (by rw [decide_eq_false (Nat.not_lt_zero j)]; rfl), fun j _ => (b6_zero j).trans (by rw [decide_eq_false (Nat.not_lt_zero _)]; rfl)⟩ (by omega)
  exact ⟨e.2.2, e.1, e.2.1, h1, h2, h3⟩
theorem w305 {v w : OBv} {z : RS} {c m : Nat} (R : RelO v z) (hz : ZC z c m) {P : Nat → Bool} {x y : Int64} (hA : A6 P (nC c) x y) (hP : ∀ k, k < nC c → PR z.2.1 c m k = true → P k = true) (x5 : Int32) : ∃ v', itl (f_L_weighs_B305 w (i3 (nC c)) x5 x y) 76 (true, (0 : Int32), v) = some (true, v') ∧ RelO v' z := by
  have hc := hz.c
  have h75 := nC_lt (show c < 13 by omega)
  obtain ⟨A1, A2⟩ := hA
  obtain ⟨e, h1, h2, h3⟩ := itl_invN (f := f_L_weighs_B305 w (i3 (nC c)) x5 x y) (fun k (q : Bool × Int32 × OBv) => q.1 = true ∧ q.2.1 = i3 k ∧ RelO q.2.2 z) (fun (e : Bool × OBv) => e.1 = true ∧ RelO e.2 z) (nC c) (by
    rintro k ⟨g, k', v⟩ hk ⟨e1, e2, R⟩
    have e1 : g = true := e1
    have e2 : k' = i3 k := e2
    subst e1
    subst e2
    have R : RelO v z := R
    have hn : ¬ i3 (nC c) ≤ i3 k := by rw [i3_le (by omega) (by omega)]; omega
    have h60 : ((60 : Int32) ≤ i3 k) ↔ 60 ≤ k := i3_le (a := 60) (by decide) (by omega)
    obtain ⟨v1, E, R1⟩ := use (call_4 R (i3 k) 0 0) (qu_is hz hk 0 0)
    have B : f_L_weighs_B305_b344 v w (i3 (nC c)) x5 x y (i3 k) ((b2i (P k)).toInt64) = some (.inl (true, i3 k + (1 : Int32), v1)) := by
      unfold f_L_weighs_B305_b344 f_L_weighs_B305_b367
      rw [E, Option.bind_some]
      have hno : ¬ 0 < lg_cmp ((b2i (PR z.2.1 c m k)).toInt64) ((b2i (P k)).toInt64) := by
        cases hp : PR z.2.1 c m k
        · cases P k <;> decide
        · rw [hP k hk hp]; decide
      exact if_neg hno
    refine ⟨(true, i3 k + (1 : Int32), v1), ?_, rfl, i3_add k 1, R1⟩
    unfold f_L_weighs_B305
    show (if i3 (nC c) ≤ i3 k then _ else if b2i true = 0 then _ else if (60 : Int32) ≤ i3 k then f_L_weighs_B305_b344 v w (i3 (nC c)) x5 x y (i3 k) ((y >>> ((i3 k - (60 : Int32)).toInt64 &&& 63)) &&& (1 : Int64)) else f_L_weighs_B305_b344 v w (i3 (nC c)) x5 x y (i3 k) ((x >>> ((i3 k).toInt64 &&& 63)) &&& (1 : Int64))) = _
    rw [if_neg hn, if_neg bfT]
    by_cases hk60 : 60 ≤ k
    · have hs : i3 k - (60 : Int32) = i3 (k - 60) := i3_sub (b := 60) hk60
      have hb : b6 y (k - 60) = P k := by
        rw [A2 (k - 60) (by omega), show 60 + (k - 60) = k by omega, decide_eq_true hk, Bool.true_and]
      rw [if_pos (h60.mpr hk60), hs, b6_val (show k - 60 < 60 by omega), hb]
      exact B
    · have hb : b6 x k = P k := by
        rw [A1 k (by omega), decide_eq_true hk, Bool.true_and]
      rw [if_neg (fun q => hk60 (h60.mp q)), b6_val (show k < 60 by omega), hb]
      exact B) (by
    rintro ⟨g, k', v⟩ ⟨e1, e2, R⟩
    have e2 : k' = i3 (nC c) := e2
    subst e2
    refine ⟨(g, v), ?_, e1, R⟩
    unfold f_L_weighs_B305
    exact if_pos ((i3_le (by omega) (by omega)).mpr (Nat.le_refl _))) 76 0 (true, (0 : Int32), v) (Nat.zero_le _) ⟨rfl, rfl, R⟩ (by omega)
  exact ⟨e.2, by rw [h1, ← h2], h3⟩
theorem w19 {v w : OBv} {z : RS} {a b code : Int32} (R : RelO v z) (R' : RelO w z) (hr : rc8 z a b 0 = some (code, z)) (hcode : f_L_thrown code = some true) : ∃ v' w', f_L_weighs_b19 v w a b = some (true, v', w') ∧ RelO v' z ∧ RelO w' z := by
  obtain ⟨v1, E1, R1⟩ := use (call_8 R a b 0) hr
  obtain ⟨w1, E2, R2⟩ := use (call_8 R' a b 0) hr
  unfold f_L_weighs_b19
  rw [E1, Option.bind_some, hcode, Option.bind_some, if_neg bfT, E2, Option.bind_some, hcode, Option.bind_some, if_neg bfT]
  exact ⟨_, _, rfl, R1, R2⟩
theorem weighs_ok {v w : OBv} {z : RS} {c m : Nat} {a b : Int32} (R : RelO v z) (R' : RelO w z) (hz : ZC z c m) (ha : SetC c a) (hb : SetC c b) (hd : ∀ q, ¬ (bt a q = true ∧ bt b q = true)) : ∃ v' w' z', f_L_weighs v w a b = some (true, v', w') ∧ RelO v' z' ∧ RelO w' z' ∧ ZC z' c m := by
  have hc := hz.c
  have h75 := nC_lt (show c < 13 by omega)
  unfold f_L_weighs
  by_cases h0 : (a ||| b) = 0
  · rw [if_pos h0]
    obtain ⟨v', w', E, R1, R2⟩ := w19 R R' (no_8 hz (fun q => q.2.2.2 h0) 0) (by decide)
    exact ⟨v', w', z, E, R1, R2, hz⟩
  have hw : WS c a b := ⟨ha, hb, hd, h0⟩
  rw [if_neg h0]
  obtain ⟨v1, E1, R1⟩ := use (call_2 R 3 0 0) (ab_3 hz 0 0)
  rw [E1, Option.bind_some]
  have h20 : (i3 m = (20 : Int32)) ↔ m = 20 := i3_eq (b := 20) (by omega) (by decide)
  by_cases hm : m = 20
  · rw [if_pos (h20.mpr hm)]
    obtain ⟨v', w', E, R1, R2⟩ := w19 R1 R' (full_8 hz hw (by omega) 0) (by decide)
    exact ⟨v', w', z, E, R1, R2, hz⟩
  rw [if_neg (fun q => hm (h20.mp q))]
  obtain ⟨v2, E2, R2⟩ := use (call_2 R1 1 0 0) (ab_1 hz 0 0)
  obtain ⟨v3, E3, R3⟩ := use (call_2 R2 2 0 0) (ab_2 hz 0 0)
  obtain ⟨v4, E4, R4⟩ := use (call_12 R3 a b 0) (qu_leaves (q := 0) hz hw (by decide))
  obtain ⟨v5, E5, R5⟩ := use (call_12 R4 a b 1) (qu_leaves (q := 1) hz hw (by decide))
  obtain ⟨v6, E6, R6⟩ := use (call_12 R5 a b 2) (qu_leaves (q := 2) hz hw (by decide))
  have hl2 := cn_sum (PR z.2.1 c m) a b (z.2.1 2) (z.2.1 3)
  obtain ⟨v7, x, y, E7, R7, hA⟩ := w117 (w := w) R6 hz a b (i3 (nP (PR z.2.1 c m))) (i3 (cn (PR z.2.1 c m) a b (z.2.1 2) (z.2.1 3) (i3 0))) (i3 (cn (PR z.2.1 c m) a b (z.2.1 2) (z.2.1 3) (i3 1))) (i3 (cn (PR z.2.1 c m) a b (z.2.1 2) (z.2.1 3) (i3 2)))
  obtain ⟨k, hk14, hk⟩ := R7.acts
  obtain ⟨z', h, hh, hPh, hr, hrow, hst⟩ := do_weigh hz hk hk14 hw (by omega) 0
  obtain ⟨v8, E8, R8⟩ := use (call_8 R7 a b 0) hr
  obtain ⟨w8, E8', R8'⟩ := use (call_8 R' a b 0) hr
  have ho := oc_le a b (z.2.1 2) (z.2.1 3) h
  generalize oc a b (z.2.1 2) (z.2.1 3) h = o at ho hr hrow E8 E8'
  have r0 : z'.2.1 0 = i3 c := by rw [hrow, wRow_old _ _ _ _ _ (by omega) (by decide)]; exact hz.r0
  have r2 : z'.2.1 2 = z.2.1 2 := by rw [hrow, wRow_old _ _ _ _ _ (by omega) (by decide)]
  have r3 : z'.2.1 3 = z.2.1 3 := by rw [hrow, wRow_old _ _ _ _ _ (by omega) (by decide)]
  have r4 : z'.2.1 4 = i3 (m + 1) := by
    rw [hrow]
    unfold wRow
    rw [upd_at]
    exact i3_add m 1
  have hz' : ZC z' c (m + 1) := ZC.of R8 r0 r4 (by omega) (by omega)
  have hP' : PR z'.2.1 c (m + 1) = fun k => PR z.2.1 c m k && decide (oc a b (z.2.1 2) (z.2.1 3) k = o) := by
    rw [hrow]
    exact wRow_PR1 z.2.1 c m a b o
  have hn1 : nP (PR z'.2.1 c (m + 1)) = cn (PR z.2.1 c m) a b (z.2.1 2) (z.2.1 3) o := by rw [hP']; rfl
  have hn2 : cn (PR z'.2.1 c (m + 1)) a b (z'.2.1 2) (z'.2.1 3) o = nP (PR z'.2.1 c (m + 1)) := by
    rw [r2, r3]
    unfold cn nP
    refine sm_cong (fun k _ => ?_)
    rw [hP']
    show ((PR z.2.1 c m k && decide (oc a b (z.2.1 2) (z.2.1 3) k = o)) && decide (oc a b (z.2.1 2) (z.2.1 3) k = o)).toNat = (PR z.2.1 c m k && decide (oc a b (z.2.1 2) (z.2.1 3) k = o)).toNat
    rw [Bool.and_assoc, Bool.and_self]
  obtain ⟨v9, E9, R9⟩ := use (call_2 R8 2 0 0) (ab_2 hz' 0 0)
  have ho3 : ∃ q, q < 3 ∧ o = i3 q := by
    rcases ho with z | z | z
    · exact ⟨0, by decide, z⟩
    · exact ⟨1, by decide, z⟩
    · exact ⟨2, by decide, z⟩
  have hlv : rc12 z' a b o = some (i3 (nP (PR z'.2.1 c (m + 1))), z') := by
    obtain ⟨q, hq, e⟩ := ho3
    have := qu_leaves (q := q) hz' hw hq
    rw [← e, hn2] at this
    exact this
  obtain ⟨v10, E10, R10⟩ := use (call_12 R9 a b o) hlv
  obtain ⟨v11, E11, R11⟩ := use (call_2 R10 2 0 0) (ab_2 hz' 0 0)
  obtain ⟨v12, E12, R12⟩ := w305 (w := w8) R11 hz' hA (fun k hk hp => by
    rw [hP'] at hp
    have hp : (PR z.2.1 c m k && decide (oc a b (z.2.1 2) (z.2.1 3) k = o)) = true := hp
    rw [Bool.and_eq_true] at hp
    exact hp.1) (i3 (nP (PR z.2.1 c m)))
  obtain ⟨k2, z2, hk2, hu, hrows, -⟩ := do_undo hst 0 0 0
  obtain ⟨v13, E13, R13⟩ := use (call_11 R12 0 0 0) hu
  obtain ⟨w13, E13', R13'⟩ := use (call_11 R8' 0 0 0) hu
  have hz2 : ZC z2 c m := hz.ext hrows
  have hP2 : PR z2.2.1 c m = PR z.2.1 c m := hz.PR (fun t _ ht => hrows t ht)
  obtain ⟨v14, E14, R14⟩ := use (call_2 R13 2 0 0) (ab_2 hz2 0 0)
  rw [hP2] at E14
  have hsum : (i3 (cn (PR z.2.1 c m) a b (z.2.1 2) (z.2.1 3) (i3 0)) + i3 (cn (PR z.2.1 c m) a b (z.2.1 2) (z.2.1 3) (i3 1))) + i3 (cn (PR z.2.1 c m) a b (z.2.1 2) (z.2.1 3) (i3 2)) = i3 (nP (PR z.2.1 c m)) := by
    rw [i3_add, i3_add]
    exact congrArg i3 hl2
  have K375 : f_L_weighs_b375 v12 w8 (i3 (nP (PR z.2.1 c m))) true = some (true, v14, w13) := by
    unfold f_L_weighs_b375
    rw [if_neg bfT, E13, Option.bind_some, thr_no (by omega), Option.bind_some, if_pos bfF, E13', Option.bind_some, thr_no (by omega), Option.bind_some, if_pos bfF, E14, Option.bind_some, if_pos rfl]
  have K300 : f_L_weighs_b300 v11 w8 (i3 (nC c)) (i3 (nP (PR z.2.1 c m))) x y true = some (true, v14, w13) := by
    unfold f_L_weighs_b300
    rw [E12, Option.bind_some]
    exact K375
  have K271 : f_L_weighs_b271 v9 w8 a b (i3 (nC c)) (i3 (nP (PR z.2.1 c m))) x y o (i3 (cn (PR z.2.1 c m) a b (z.2.1 2) (z.2.1 3) o)) (i3 (nP (PR z'.2.1 c (m + 1)))) = some (true, v14, w13) := by
    unfold f_L_weighs_b271
    rw [if_pos (congrArg i3 hn1), E10, Option.bind_some, E11, Option.bind_some, if_pos rfl]
    exact K300
  refine ⟨v14, w13, z2, ?_, R14, R13', hz2⟩
  rw [E2, Option.bind_some, E3, Option.bind_some]
  have E4 : f_O_call v3 (12 : Int32) a b (0 : Int32) = some (i3 (cn (PR z.2.1 c m) a b (z.2.1 2) (z.2.1 3) (i3 0)), v4) := E4
  have E5 : f_O_call v4 (12 : Int32) a b (1 : Int32) = some (i3 (cn (PR z.2.1 c m) a b (z.2.1 2) (z.2.1 3) (i3 1)), v5) := E5
  have E6 : f_O_call v5 (12 : Int32) a b (2 : Int32) = some (i3 (cn (PR z.2.1 c m) a b (z.2.1 2) (z.2.1 3) (i3 2)), v6) := E6
  rw [E4, Option.bind_some, E5, Option.bind_some, E6, Option.bind_some, E7, Option.bind_some, E8, Option.bind_some]
  have ho0 : ¬ o < 0 := by rcases ho with z | z | z <;> rw [z] <;> decide
  have ho9 : ¬ (3 : Int32) ≤ o := by rcases ho with z | z | z <;> rw [z] <;> decide
  rw [if_neg ho0, if_neg ho9, E8', Option.bind_some, if_pos rfl, if_pos hsum, E9, Option.bind_some]
  rcases ho with ho | ho | ho
  · rw [if_pos ho]
    rw [ho] at K271 ⊢
    exact K271
  · rw [if_neg (show ¬ o = (0 : Int32) by rw [ho]; decide), if_pos ho]
    rw [ho] at K271 ⊢
    exact K271
  · rw [if_neg (show ¬ o = (0 : Int32) by rw [ho]; decide), if_neg (show ¬ o = (1 : Int32) by rw [ho]; decide)]
    rw [ho] at K271 ⊢
    exact K271
