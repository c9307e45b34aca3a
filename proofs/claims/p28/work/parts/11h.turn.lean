/-! ===== the law's turns ===== -/
theorem and31 (y : Int32) : ∃ x, x < 2 ^ 31 ∧ y &&& (2147483647 : Int32) = i3 x := by
  have h : ∀ j, 31 ≤ j → bt (y &&& (2147483647 : Int32)) j = false := by
    intro j hj
    by_cases h31 : j = 31
    · subst h31
      rw [bt_and, show bt (2147483647 : Int32) 31 = false from by decide, Bool.and_false]
    · exact bt_ge (by omega)
  generalize y &&& (2147483647 : Int32) = x at h
  have h1 : x.toBitVec.toNat < 2 ^ 31 := Nat.lt_pow_two_of_testBit _ (fun i hi => h i hi)
  refine ⟨x.toBitVec.toNat, h1, ?_⟩
  apply Int32.toBitVec_inj.1
  apply BitVec.eq_of_toNat_eq
  show _ = (BitVec.ofNat 32 _).toNat
  rw [BitVec.toNat_ofNat, Nat.mod_eq_of_lt (by omega)]
theorem cell_ok {L : Nat} (hL : L ≤ 260) (xs : Fn) {k : Nat} (hk : k < 1000) : ∃ x, x < 2 ^ 31 ∧ f_L_cell L xs (i3 k) = some (i3 x) := by
  unfold f_L_cell
  by_cases h : L ≤ k
  · rw [if_pos ((i3_le (by omega) (by omega)).mpr h)]
    obtain ⟨x, hx, e⟩ := and31 ((15519283 : Int32) * (i3 k + (3 : Int32)) + (11411 : Int32))
    exact ⟨x, hx, congrArg some e⟩
  · rw [if_neg (fun q => h ((i3_le (by omega) (by omega)).mp q)), if_neg (i3_in (by omega) (by omega))]
    obtain ⟨x, hx, e⟩ := and31 (xs (i3 k).toNatClampNeg)
    exact ⟨x, hx, congrArg some e⟩
theorem mask_SetC {c : Nat} (hc : c < 13) (x : Int32) : SetC c (x &&& i3 (2 ^ c - 1)) := fun b hb => by
  by_cases h : b < 32
  · rw [bt_and, mask_bt c hc b h, decide_eq_false (by omega), Bool.and_false]
  · exact bt_ge (by omega)
theorem not_both (x y : Int32) (q : Nat) : ¬ (bt x q = true ∧ bt (y &&& (x ^^^ (-1 : Int32))) q = true) := by
  rintro ⟨h1, h2⟩
  by_cases h : q < 32
  · rw [bt_and, bt_not h, h1] at h2
    simp at h2
  · rw [bt_ge (by omega)] at h1
    exact nomatch h1
theorem SetC.and {c : Nat} {x : Int32} (h : SetC c x) (y : Int32) : SetC c (x &&& y) := fun b hb => by
  rw [bt_and, h b hb, Bool.false_and]
theorem turn_185 {L : Nat} {xs : Fn} {v w : OBv} {z : RS} {c m x : Nat} {a b : Int32} (R : RelO v z) (R' : RelO w z) (hz : ZC z c m) (hx : x < 2 ^ 31) (ha : SetC c a) (hb : SetC c b) (hd : ∀ q, ¬ (bt a q = true ∧ bt b q = true)) (x3 x5 : Int32) : ∃ v' w' z', f_L_law_B34_b185 L xs v w x3 x5 (i3 x) a b = some (.inl (true, x5 + (1 : Int32), v', w')) ∧ RelO v' z' ∧ RelO w' z' := by
  have d11 : i3 x / (11 : Int32) = i3 (x / 11) := i3_div hx (by decide : 11 < 2 ^ 31)
  obtain ⟨v1, w1, z1, E1, R1, R1', hz1⟩ := weighs_ok R R' hz ha hb hd
  unfold f_L_law_B34_b185 f_L_law_B34_b221 f_L_law_B34_b226
  rw [E1, Option.bind_some, if_neg bfT, d11]
  by_cases h4 : 0 < (x5 - x5 / (4 : Int32) * (4 : Int32))
  · rw [if_pos h4]
    exact ⟨_, _, z1, rfl, R1, R1'⟩
  · rw [if_neg h4]
    obtain ⟨v2, w2, z2, E2, R2, R2'⟩ := arms_ok (x := x / 11) R1 R1' hz1 (by omega) ha hb hd
    rw [E2, Option.bind_some, if_neg bfT]
    exact ⟨_, _, z2, rfl, R2, R2'⟩
theorem turn_ok {L : Nat} (hL : L ≤ 260) (xs : Fn) {v w : OBv} {z : RS} {k : Nat} (R : RelO v z) (R' : RelO w z) (hk : k < 900) {x3 : Int32} (h3 : ¬ x3 ≤ i3 k) : ∃ v' w' z', f_L_law_B34 L xs x3 (true, i3 k, v, w) = some (.inl (true, i3 k + (1 : Int32), v', w')) ∧ RelO v' z' ∧ RelO w' z' := by
  have e1 : (1 : Int32) + i3 k = i3 (1 + k) := i3_add 1 k
  obtain ⟨x, hx, hcell⟩ := cell_ok hL xs (show 1 + k < 1000 by omega)
  obtain ⟨y, z', K⟩ := act_ok ⟨v, R⟩ (i3 x)
  obtain ⟨v1, E1, R1⟩ := K v R
  obtain ⟨c, m, hz⟩ := R1.zc
  have hc := hz.c
  obtain ⟨v2, E2, R2⟩ := use (call_2 R1 0 0 0) (ab_0 hz 0 0)
  have hm1 : i3 x - i3 x / (100000 : Int32) * (100000 : Int32) = i3 (x % 100000) := i3_mod hx (by decide : 100000 < 2 ^ 31)
  have hm2 : i3 x - i3 x / (1000 : Int32) * (1000 : Int32) = i3 (x % 1000) := i3_mod hx (by decide : 1000 < 2 ^ 31)
  have l1 : x % 100000 < 100000 := Nat.mod_lt _ (by decide)
  have l2 : x % 1000 < 1000 := Nat.mod_lt _ (by decide)
  have d3 : i3 x / (3 : Int32) = i3 (x / 3) := i3_div hx (by decide : 3 < 2 ^ 31)
  have d5 : i3 x / (5 : Int32) = i3 (x / 5) := i3_div hx (by decide : 5 < 2 ^ 31)
  obtain ⟨w1, E3, R3⟩ := refuses_ok (x := x % 100000) R' l1
  obtain ⟨w2, E4, R4⟩ := K w1 R3
  obtain ⟨w3, E5, R5⟩ := refuses_ok (x := x % 1000) R4 (by omega)
  obtain ⟨v4, w4, E6, R6, R6'⟩ := alike_ok (i3 x - i3 x / (5000 : Int32) * (5000 : Int32)) R2 R5
  have hA : SetC c ((i3 x / (7 : Int32)) &&& i3 (2 ^ c - 1)) := mask_SetC (by omega) _
  have hB : SetC c (((i3 x / (28672 : Int32)) &&& i3 (2 ^ c - 1)) &&& (((i3 x / (7 : Int32)) &&& i3 (2 ^ c - 1)) ^^^ (-1 : Int32))) := (mask_SetC (by omega) _).and _
  have hD : ∀ q, ¬ (bt ((i3 x / (7 : Int32)) &&& i3 (2 ^ c - 1)) q = true ∧ bt (((i3 x / (28672 : Int32)) &&& i3 (2 ^ c - 1)) &&& (((i3 x / (7 : Int32)) &&& i3 (2 ^ c - 1)) ^^^ (-1 : Int32))) q = true) := not_both _ _
  have hB103 : ∃ v' w' z', f_L_law_B34_b103 L xs v2 w x3 (i3 k) (i3 x) y ((i3 x / (7 : Int32)) &&& i3 (2 ^ c - 1)) (((i3 x / (28672 : Int32)) &&& i3 (2 ^ c - 1)) &&& (((i3 x / (7 : Int32)) &&& i3 (2 ^ c - 1)) ^^^ (-1 : Int32))) = some (.inl (true, i3 k + (1 : Int32), v', w')) ∧ RelO v' z' ∧ RelO w' z' := by
    unfold f_L_law_B34_b103
    rw [hm1, hm2, E3, Option.bind_some, if_neg bfT]
    have E4' : f_L_act w1 (i3 x) = some (y, w2) := E4
    rw [E4', Option.bind_some, if_pos rfl, E5, Option.bind_some, if_neg bfT, E6, Option.bind_some, if_neg bfT]
    by_cases h2 : (i3 k - i3 k / (2 : Int32) * (2 : Int32)) = 0
    · rw [if_pos h2, d3]
      obtain ⟨v5, E7, R7⟩ := holds_ok (x := x / 3) R6 (by omega)
      rw [E7, Option.bind_some, if_neg bfT]
      exact turn_185 R7 R6' hz hx hA hB hD x3 (i3 k)
    · rw [if_neg h2, d5]
      obtain ⟨w5, E7, R7⟩ := holds_ok (x := x / 5) R6' (by omega)
      rw [E7, Option.bind_some, if_neg bfT]
      exact turn_185 R6 R7 hz hx hA hB hD x3 (i3 k)
  obtain ⟨v', w', z'', F, RF, RF'⟩ := hB103
  refine ⟨v', w', z'', ?_, RF, RF'⟩
  unfold f_L_law_B34
  show (if x3 ≤ i3 k then _ else if b2i true = 0 then _ else (f_L_cell L xs ((1 : Int32) + i3 k)).bind _) = _
  have E1' : f_L_act v (i3 x) = some (y, v1) := E1
  rw [if_neg h3, if_neg bfT, e1, hcell, Option.bind_some]
  show ((f_L_act v (i3 x)).bind _ : Option _) = _
  rw [E1', Option.bind_some, E2, Option.bind_some, mask_eq c (by omega)]
  exact F
theorem pure_run {L : Nat} (hL : L ≤ 260) (xs : Fn) : lawRuns L xs := by
  obtain ⟨w12, e12, h12⟩ := w12_LsR
  obtain ⟨w66, e66, h66⟩ := w66_LsR
  obtain ⟨tb', su', r', er, -, hT⟩ := reset_eq (0, 0, 0, 0, 0, 0, 0, (fun _ => (0 : Int32))) (fun _ => (0 : Int32)) Z0
  obtain ⟨n, hn, hcell⟩ := cell_ok hL xs (show 0 < 1000 by decide)
  have hcell' : f_L_cell L xs 0 = some (i3 n) := hcell
  have m19 : i3 n - i3 n / (19 : Int32) * (19 : Int32) = i3 (n % 19) := i3_mod hn (by decide : 19 < 2 ^ 31)
  have a8 : (8 : Int32) + i3 (n % 19) = i3 (8 + n % 19) := i3_add 8 _
  have l19 : n % 19 < 19 := Nat.mod_lt _ (by decide)
  have R0 : RelO (newO (tb', su') w12 w66) (0, r', Z0, Z0, Z0) := by
    refine ⟨⟨9, 0, hT⟩, his_clear _ _, ⟨?_, fun z => absurd rfl z, ?_, fun z => absurd rfl z⟩, h12, h66⟩
    · exact ⟨fun _ => rfl, fun _ => rfl⟩
    · exact ⟨fun _ => rfl, fun _ => rfl⟩
  obtain ⟨e, h1, h2⟩ := itl_invN (f := f_L_law_B34 L xs (i3 (8 + n % 19))) (fun k (q : Bool × Int32 × OBv × OBv) => q.1 = true ∧ q.2.1 = i3 k ∧ ∃ z, RelO q.2.2.1 z ∧ RelO q.2.2.2 z) (fun (e : Bool × OBv × OBv) => e.1 = true) (8 + n % 19) (by
    rintro k ⟨g, k', v, w⟩ hk ⟨e1, e2, z, R, R'⟩
    have e1 : g = true := e1
    have e2 : k' = i3 k := e2
    subst e1
    subst e2
    obtain ⟨v', w', z', E, R1, R2⟩ := turn_ok hL xs R R' (show k < 900 by omega) (x3 := i3 (8 + n % 19)) (fun q => by
      have := (i3_le (by omega) (by omega)).mp q
      omega)
    exact ⟨_, E, rfl, i3_add k 1, z', R1, R2⟩) (by
    rintro ⟨g, k', v, w⟩ ⟨e1, e2, -⟩
    have e2 : k' = i3 (8 + n % 19) := e2
    subst e2
    refine ⟨(g, v, w), ?_, e1⟩
    unfold f_L_law_B34
    exact if_pos ((i3_le (by omega) (by omega)).mpr (Nat.le_refl _))) 28 0 (true, (0 : Int32), newO (tb', su') w12 w66, newO (tb', su') w12 w66) (Nat.zero_le _) ⟨rfl, rfl, _, R0, R0⟩ (by omega)
  refine ⟨w12, w66, (tb', su'), i3 n, e, e12, e66, er, hcell', ?_, h2⟩
  rw [m19, a8]
  exact h1
