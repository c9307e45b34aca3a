/-! ===== what holds at each table: coins, weighings, needs, the best pair ===== -/
theorem h186 {v : OBv} {z : RS} {c m : Nat} (R : RelO v z) (hz : ZC z c m) {w : Fn} (hT : Told (PR z.2.1 c m) c 78 w) (x1 x3 x4 x5 x6 x7 : Int32) : ∃ v', itl (f_L_holds_B186 w x1 (i3 c) x3 x4 x5 x6 x7) 13 (true, (0 : Int32), v) = some (true, v') ∧ RelO v' z := by
  have hc := hz.c
  obtain ⟨e, h1, h2, h3⟩ := itl_invN (f := f_L_holds_B186 w x1 (i3 c) x3 x4 x5 x6 x7) (fun d (q : Bool × Int32 × OBv) => q.1 = true ∧ q.2.1 = i3 d ∧ RelO q.2.2 z) (fun (e : Bool × OBv) => e.1 = true ∧ RelO e.2 z) c (by
    rintro d ⟨g, k, v⟩ hd ⟨e1, e2, R⟩
    have e1 : g = true := e1
    have e2 : k = i3 d := e2
    subst e1
    subst e2
    have R : RelO v z := R
    have hn : ¬ i3 c ≤ i3 d := by rw [i3_le (by omega) (by omega)]; omega
    have hnat : (i3 d).toNatClampNeg = d := i3_nat (by omega)
    obtain ⟨v1, E, R1⟩ := use (call_3 R (i3 d) 0 0) (qu_coin hz hd 0 0)
    refine ⟨(true, i3 d + (1 : Int32), v1), ?_, rfl, i3_add d 1, R1⟩
    unfold f_L_holds_B186 f_L_holds_B186_b219
    show (if i3 c ≤ i3 d then _ else if b2i true = 0 then _ else (f_O_call v (3 : Int32) (i3 d) (0 : Int32) (0 : Int32)).bind _) = _
    rw [if_neg hn, if_neg bfT, E, Option.bind_some, if_neg (i3_in (by omega) (by decide)), hnat, hT d hd, if_pos rfl]) (by
    rintro ⟨g, k, v⟩ ⟨e1, e2, R⟩
    have e2 : k = i3 c := e2
    subst e2
    refine ⟨(g, v), ?_, e1, R⟩
    unfold f_L_holds_B186
    exact if_pos ((i3_le (by omega) (by omega)).mpr (Nat.le_refl _))) 13 0 (true, (0 : Int32), v) (Nat.zero_le _) ⟨rfl, rfl, R⟩ (by omega)
  exact ⟨e.2, by rw [h1, ← h2], h3⟩
theorem fit_le {r : Fn} {m i k : Nat} (hi : i ≤ m) (h : fitB r m k = true) : fitB r i k = true := by
  unfold fitB at h ⊢
  rw [allB_iff] at h ⊢
  exact fun j hj => h j (by omega)
theorem zc_posi {z : RS} {c m i : Nat} (hz : ZC z c m) (hi : i ≤ m) : 0 < nP (PR z.2.1 c i) := by
  obtain ⟨k, h1, h2, h3⟩ := hz.hid
  have hc := hz.c
  have h75 := nC_lt (show c < 13 by omega)
  rw [PR_fit h1] at h3
  exact sm_pos (show k < 78 by omega) (by rw [PR_fit h1, fit_le hi h3]; decide)
theorem nP_mono {r : Fn} {c i : Nat} : nP (PR r c (i + 1)) ≤ nP (PR r c i) := by
  have key : ∀ n, sm (fun k => (PR r c (i + 1) k).toNat) n ≤ sm (fun k => (PR r c i k).toNat) n := by
    intro n
    induction n with
    | zero => exact Nat.le_refl _
    | succ n ih =>
      show _ + _ ≤ _ + _
      refine Nat.add_le_add ih ?_
      have hle : ∀ p q : Bool, (p && q).toNat ≤ p.toNat := by decide
      have e := congrFun (fit_mono (r := r) (c := c) (m := i)) n
      show (PR r c (i + 1) n).toNat ≤ (PR r c i n).toNat
      rw [e]
      exact hle _ _
  exact key 78
theorem zc_ws {z : RS} {c m i : Nat} (hz : ZC z c m) (hi : i < m) : WS c (z.2.1 (7 + 5 * i)) (z.2.1 (8 + 5 * i)) := by
  obtain ⟨tb, su, T⟩ := hz
  exact T.2.2.2.2 i hi
theorem h236 {v : OBv} {z : RS} {c m : Nat} (R : RelO v z) (hz : ZC z c m) (w : Fn) (x1 x2 x4 x6 x7 : Int32) : ∃ v', itl (f_L_holds_B236 w x1 x2 x4 (i3 m) x6 x7) 21 (true, i3 (nC c), (0 : Int32), (0 : Int32), v) = some (true, i3 (nP (PR z.2.1 c m)), i3 (sm (iq z.2.1 c) m), v') ∧ RelO v' z := by
  have hc := hz.c
  have h75 := nC_lt (show c < 13 by omega)
  obtain ⟨e, h1, h2, h3, h4, h5⟩ := itl_invN (f := f_L_holds_B236 w x1 x2 x4 (i3 m) x6 x7) (fun i (q : Bool × Int32 × Int32 × Int32 × OBv) => q.1 = true ∧ q.2.1 = i3 (nP (PR z.2.1 c i)) ∧ q.2.2.1 = i3 (sm (iq z.2.1 c) i) ∧ q.2.2.2.1 = i3 i ∧ RelO q.2.2.2.2 z) (fun (e : Bool × Int32 × Int32 × OBv) => e.1 = true ∧ e.2.1 = i3 (nP (PR z.2.1 c m)) ∧ e.2.2.1 = i3 (sm (iq z.2.1 c) m) ∧ RelO e.2.2.2 z) m (by
    rintro i ⟨g, la, id, k, v⟩ hi ⟨e1, e2, e3, e4, R⟩
    have e1 : g = true := e1
    have e2 : la = i3 (nP (PR z.2.1 c i)) := e2
    have e3 : id = i3 (sm (iq z.2.1 c) i) := e3
    have e4 : k = i3 i := e4
    subst e1
    subst e2
    subst e3
    subst e4
    have R : RelO v z := R
    have hn : ¬ i3 m ≤ i3 i := by rw [i3_le (by omega) (by omega)]; omega
    have l1 := nP_le (PR z.2.1 c i)
    have l2 := nP_le (PR z.2.1 c (i + 1))
    have hmono : nP (PR z.2.1 c (i + 1)) ≤ nP (PR z.2.1 c i) := nP_mono
    have hpos := zc_posi hz (show i + 1 ≤ m by omega)
    have hws := zc_ws hz hi
    have hand : (z.2.1 (7 + 5 * i) &&& z.2.1 (8 + 5 * i)) = 0 := (and_zero_iff _ _).mpr hws.2.2.1
    have hor : ¬ (z.2.1 (7 + 5 * i) ||| z.2.1 (8 + 5 * i)) ≤ 0 := by
      have hs : SetC c (z.2.1 (7 + 5 * i) ||| z.2.1 (8 + 5 * i)) := SetC.or_iff.mpr ⟨hws.1, hws.2.1⟩
      obtain ⟨n, hn, e⟩ := hs.of (by omega)
      have hp := pow_c (show c < 13 by omega)
      intro hle
      rw [e] at hle
      have h0 : n ≤ 0 := (i3_le (b := 0) (by omega) (by decide)).mp hle
      exact hws.2.2.2 (by rw [e, show n = 0 by omega]; rfl)
    obtain ⟨v1, E1, R1⟩ := use (call_5 R (i3 i) (i3 5) 0) (qu_told hz hi (by decide) 0)
    rw [if_pos rfl] at E1
    have E1 : f_O_call v (5 : Int32) (i3 i) (5 : Int32) (0 : Int32) = some (i3 (nP (PR z.2.1 c (i + 1))), v1) := E1
    obtain ⟨v2, E2, R2⟩ := use (call_5 R1 (i3 i) (i3 0) 0) (qu_told hz hi (by decide) 0)
    rw [if_neg (by decide)] at E2
    have E2 : f_O_call v1 (5 : Int32) (i3 i) (0 : Int32) (0 : Int32) = some (z.2.1 (7 + 5 * i), v2) := E2
    obtain ⟨v3, E3, R3⟩ := use (call_5 R2 (i3 i) (i3 1) 0) (qu_told hz hi (by decide) 0)
    rw [if_neg (by decide), show 7 + 5 * i + 1 = 8 + 5 * i by omega] at E3
    have E3 : f_O_call v2 (5 : Int32) (i3 i) (1 : Int32) (0 : Int32) = some (z.2.1 (8 + 5 * i), v3) := E3
    obtain ⟨v4, E4, R4⟩ := use (call_5 R3 (i3 i) (i3 0) 0) (qu_told hz hi (by decide) 0)
    rw [if_neg (by decide)] at E4
    have E4 : f_O_call v3 (5 : Int32) (i3 i) (0 : Int32) (0 : Int32) = some (z.2.1 (7 + 5 * i), v4) := E4
    obtain ⟨v5, E5, R5⟩ := use (call_5 R4 (i3 i) (i3 1) 0) (qu_told hz hi (by decide) 0)
    rw [if_neg (by decide), show 7 + 5 * i + 1 = 8 + 5 * i by omega] at E5
    have E5 : f_O_call v4 (5 : Int32) (i3 i) (1 : Int32) (0 : Int32) = some (z.2.1 (8 + 5 * i), v5) := E5
    have B : ∀ y : Bool, f_L_holds_B236_b273 v1 w x1 x2 x4 (i3 m) x6 x7 (i3 (nP (PR z.2.1 c i))) (i3 i) (i3 (nP (PR z.2.1 c (i + 1)))) y (i3 (sm (iq z.2.1 c) i)) = some (.inl (true, i3 (nP (PR z.2.1 c (i + 1))), i3 (sm (iq z.2.1 c) i) + b2i y, i3 i + (1 : Int32), v5)) := by
      intro y
      unfold f_L_holds_B236_b273 f_L_holds_B236_b337
      rw [if_neg (fun q => by have := (i3_lt (by omega) (by omega)).mp q; omega), if_neg (fun q => by have := (i3_le (b := 0) (by omega) (by decide)).mp q; omega), E2, Option.bind_some, E3, Option.bind_some, if_pos hand, E4, Option.bind_some, E5, Option.bind_some, if_neg hor]
    have hq : (i3 (nP (PR z.2.1 c (i + 1))) = i3 (nP (PR z.2.1 c i))) ↔ nP (PR z.2.1 c (i + 1)) = nP (PR z.2.1 c i) := i3_eq (by omega) (by omega)
    have hid : ∀ y : Bool, y = decide (nP (PR z.2.1 c i) = nP (PR z.2.1 c (i + 1))) → i3 (sm (iq z.2.1 c) i) + b2i y = i3 (sm (iq z.2.1 c) (i + 1)) := by
      rintro y rfl
      rw [b2i_val, i3_add]
      rfl
    have A : f_L_holds_B236 w x1 x2 x4 (i3 m) x6 x7 (true, i3 (nP (PR z.2.1 c i)), i3 (sm (iq z.2.1 c) i), i3 i, v) = some (.inl (true, i3 (nP (PR z.2.1 c (i + 1))), i3 (sm (iq z.2.1 c) (i + 1)), i3 i + (1 : Int32), v5)) := by
      unfold f_L_holds_B236
      show (if i3 m ≤ i3 i then _ else if b2i true = 0 then _ else (f_O_call v (5 : Int32) (i3 i) (5 : Int32) (0 : Int32)).bind _) = _
      rw [if_neg hn, if_neg bfT, E1, Option.bind_some]
      by_cases hh : nP (PR z.2.1 c (i + 1)) = nP (PR z.2.1 c i)
      · rw [if_pos (hq.mpr hh), B true, hid true (decide_eq_true hh.symm).symm]
      · rw [if_neg (fun q => hh (hq.mp q)), B false, hid false (decide_eq_false (fun q => hh q.symm)).symm]
    exact ⟨_, A, rfl, rfl, rfl, i3_add i 1, R5⟩) (by
    rintro ⟨g, la, id, k, v⟩ ⟨e1, e2, e3, e4, R⟩
    have e4 : k = i3 m := e4
    subst e4
    refine ⟨(g, la, id, v), ?_, e1, e2, e3, R⟩
    unfold f_L_holds_B236
    exact if_pos ((i3_le (by omega) (by omega)).mpr (Nat.le_refl _))) 21 0 (true, i3 (nC c), (0 : Int32), (0 : Int32), v) (Nat.zero_le _) ⟨rfl, by rw [nP_0 z.2.1 (show c < 13 by omega)], rfl, rfl, R⟩ (by omega)
  exact ⟨e.2.2.2, by rw [h1, ← h2, ← h3, ← h4], h5⟩
theorem h361 {k : Nat} (hk : k < 5) (v : OBv) (w : Fn) (x1 x2 x4 x6 x7 : Int32) (x9 : Bool) (x10 x11 : Int32) : itl (f_L_holds_B361 v w x1 x2 x4 x6 x7 x9 x10 x11 (i3 k)) FU ((1 : Int32), (0 : Int32)) = some (i3 (3 ^ k)) := by
  have hl := itl_for (f := f_L_holds_B361 v w x1 x2 x4 x6 x7 x9 x10 x11 (i3 k)) (fun i => (i3 (3 ^ i), i3 i)) k (e := i3 (3 ^ k)) (by unfold FU; omega) (fun i hi => by
    unfold f_L_holds_B361
    rw [if_neg (by rw [i3_le (by omega) (by omega)]; omega)]
    show some (Sum.inl (i3 (3 ^ i) * i3 3, i3 i + i3 1)) = _
    rw [i3_mul, i3_add, ← Nat.pow_succ]) (by
    unfold f_L_holds_B361
    exact if_pos ((i3_le (by omega) (by omega)).mpr (Nat.le_refl _)))
  exact hl
theorem h521 {v : OBv} {z : RS} {c m jj : Nat} (R : RelO v z) (hz : ZC z c m) (hjj : jj = 1 ∨ jj = 2) (w : Fn) : ∃ v', f_L_holds_b521 v w (i3 jj) (bT (PR z.2.1 c m) (z.2.1 2) (z.2.1 3) jj c).2.2 true = some (true, v') ∧ RelO v' z := by
  have hc := hz.c
  unfold f_L_holds_b521
  rw [if_neg bfT]
  rcases bT_ok (PR z.2.1 c m) (z.2.1 2) (z.2.1 3) ⟨hc.1, hc.2.1⟩ hjj with ⟨-, h⟩ | ⟨-, a, b, hw, h⟩
  · rw [if_pos h]
    exact ⟨v, rfl, R⟩
  · obtain ⟨v1, E1, R1⟩ := use (call_13 R (i3 jj) 0 0) (qu_best hz hjj 0 0 (by decide))
    obtain ⟨v2, E2, R2⟩ := use (call_13 R1 (i3 jj) 1 0) (qu_best hz hjj 1 0 (by decide))
    rw [if_pos rfl, h] at E1
    rw [if_neg (by decide), if_pos rfl, h] at E2
    obtain ⟨v3, E3, R3⟩ := most_ok R2 hz hw
    have hne : ¬ i3 (w3 (PR z.2.1 c m) a b (z.2.1 2) (z.2.1 3)) = -1 := i3_m1 (by have := w3_le (PR z.2.1 c m) a b (z.2.1 2) (z.2.1 3); omega)
    rw [h, if_neg hne, E1, Option.bind_some, E2, Option.bind_some, E3, Option.bind_some, if_pos rfl]
    exact ⟨_, rfl, R3⟩
theorem h477 {v : OBv} {z : RS} {c m jj : Nat} (R : RelO v z) (hz : ZC z c m) (hjj : jj = 1 ∨ jj = 2) (w : Fn) {x16 : Int32} (hsh : nP (PR z.2.1 c m) ≤ 1 → x16 = -1) : ∃ v', f_L_holds_b477 v w (i3 c) (i3 (nP (PR z.2.1 c m))) (i3 jj) (bT (PR z.2.1 c m) (z.2.1 2) (z.2.1 3) jj c).2.2 x16 = some (true, v') ∧ RelO v' z := by
  have hc := hz.c
  have h79 := nP_le (PR z.2.1 c m)
  have e2 : (2 : Int32) * i3 jj = i3 (2 * jj) := i3_mul 2 jj
  have hle : (i3 (2 * jj) ≤ i3 c) ↔ 2 * jj ≤ c := i3_le (by omega) (by omega)
  have hl1 : ((1 : Int32) < i3 (nP (PR z.2.1 c m))) ↔ 1 < nP (PR z.2.1 c m) := i3_lt (a := 1) (by decide) (by omega)
  have fin : ∀ y : Bool, ∃ v', f_L_holds_b501 v w (i3 (nP (PR z.2.1 c m))) (i3 jj) (bT (PR z.2.1 c m) (z.2.1 2) (z.2.1 3) jj c).2.2 x16 y y = some (true, v') ∧ RelO v' z := by
    intro y
    unfold f_L_holds_b501 f_L_holds_b516
    rw [if_pos rfl]
    by_cases h1 : 1 < nP (PR z.2.1 c m)
    · rw [if_pos (hl1.mpr h1)]
      exact h521 R hz hjj w
    · rw [if_neg (fun q => h1 (hl1.mp q)), if_pos (hsh (by omega))]
      exact h521 R hz hjj w
  unfold f_L_holds_b477 f_L_holds_b488
  rw [e2]
  rcases bT_ok (PR z.2.1 c m) (z.2.1 2) (z.2.1 3) ⟨hc.1, hc.2.1⟩ hjj with ⟨h0, h⟩ | ⟨h0, a, b, hw, h⟩
  · rw [if_pos h, if_neg (fun q => by have := hle.mp q; omega)]
    exact fin true
  · have hne : ¬ (bT (PR z.2.1 c m) (z.2.1 2) (z.2.1 3) jj c).2.2 = -1 := by
      rw [h]
      exact i3_m1 (by have := w3_le (PR z.2.1 c m) a b (z.2.1 2) (z.2.1 3); omega)
    rw [if_neg hne, if_pos (hle.mpr h0)]
    exact fin false
