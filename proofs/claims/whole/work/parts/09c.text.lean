/-! ===== the text: signs, digits, numbers, letters ===== -/
def TxR (n : Nat) (S v : Fn) : Prop := n ≤ 120 ∧ ∀ i, i < n → v i = S i ∧ ∃ k, k < 256 ∧ S i = i3 k
def sg (n : Nat) (S : Fn) (p : Nat) : Int32 := if p < n then S p else (-1 : Int32)
abbrev tS (x : TXv) : Fn := x.2.2.2.2.2.2.2.2
def TXs (n p : Nat) (w : Bool) (S : Fn) (x : TXv) : Prop := x.1 = i3 n ∧ x.2.1 = i3 p ∧ x.2.2.1 = b2i w ∧ x.2.2.2.2.2.2.2.2 = S
abbrev atx (x : TXv) (p : Int32) : TXv := (x.1, p, x.2.2.1, x.2.2.2.1, x.2.2.2.2.1, x.2.2.2.2.2.1, x.2.2.2.2.2.2.1, x.2.2.2.2.2.2.2.1, x.2.2.2.2.2.2.2.2)
abbrev wrx (x : TXv) : TXv := (x.1, x.2.1, (1 : Int32), x.2.2.2.1, x.2.2.2.2.1, x.2.2.2.2.2.1, x.2.2.2.2.2.2.1, x.2.2.2.2.2.2.2.1, x.2.2.2.2.2.2.2.2)
abbrev mS (u : MOv) (p o : Int32) : MOv := (u.1, u.2.1, u.2.2.1, u.2.2.2.1, p, o)
theorem TXs.at {n p : Nat} {w : Bool} {S : Fn} {x : TXv} (h : TXs n p w S x) (q : Nat) : TXs n q w S (atx x (i3 q)) := ⟨h.1, rfl, h.2.2.1, h.2.2.2⟩
theorem TXs.wr {n p : Nat} {w : Bool} {S : Fn} {x : TXv} (h : TXs n p w S x) : TXs n p true S (wrx x) := ⟨h.1, h.2.1, rfl, h.2.2.2⟩
theorem sg_cases {n : Nat} {S v : Fn} (h : TxR n S v) (p : Nat) : sg n S p = (-1 : Int32) ∨ (p < n ∧ ∃ k, k < 256 ∧ sg n S p = i3 k) := by
  unfold sg
  by_cases hp : p < n
  · rw [if_pos hp]
    exact Or.inr ⟨hp, (h.2 p hp).2⟩
  · rw [if_neg hp]
    exact Or.inl rfl
theorem sg_in {n k : Nat} {S : Fn} {p : Nat} (hk : k < 2 ^ 31) (h : sg n S p = i3 k) : p < n := by
  unfold sg at h
  by_cases hp : p < n
  · exact hp
  · rw [if_neg hp] at h
    exact absurd h.symm (i3_m1 hk)
theorem more_ok {n p : Nat} {S : Fn} {x : TXv} (h : TXs n p false S x) (hn : n ≤ 120) (hp : p < 2 ^ 31) : f_X6_hasMore x = some (decide (p < n)) := by
  obtain ⟨h1, h2, h3, h4⟩ := h
  unfold f_X6_hasMore
  rw [h3, if_pos bfF, h1, h2]
  by_cases hlt : p < n
  · rw [if_neg (by rw [i3_le (by omega) hp]; omega), decide_eq_true hlt]
  · rw [if_pos (by rw [i3_le (by omega) hp]; omega), decide_eq_false hlt]
theorem more_wr {n p : Nat} {S : Fn} {x : TXv} (h : TXs n p true S x) : f_X6_hasMore x = some false := by
  unfold f_X6_hasMore
  rw [h.2.2.1, if_neg bfT]
theorem next_ok {n p : Nat} {S : Fn} {x : TXv} (h : TXs n p false S x) (hn : n ≤ 120) (hp : p < 2 ^ 31) : f_X6_nextSign x = some (sg n S p) := by
  have hm := more_ok h hn hp
  obtain ⟨h1, h2, h3, h4⟩ := h
  unfold f_X6_nextSign sg
  rw [hm, Option.bind_some, h2, h4]
  by_cases hlt : p < n
  · rw [decide_eq_true hlt, if_neg bfT, if_neg (i3_nn hp), if_neg (by show ¬ i3 120 ≤ i3 p; rw [i3_le (by decide) hp]; omega), if_neg (i3_in (by omega) (by decide)), i3_nat hp, if_pos hlt]
  · rw [decide_eq_false hlt, if_pos bfF, if_neg hlt]
theorem next_wr {n p : Nat} {S : Fn} {x : TXv} (h : TXs n p true S x) : f_X6_nextSign x = some (-1 : Int32) := by
  unfold f_X6_nextSign
  rw [more_wr h, Option.bind_some, if_pos bfF]
theorem sign_ok {n p : Nat} {S v : Fn} {u : MOv} (hT : TxR n S v) (hu : u.2.1 = i3 n) (hp : p < 2 ^ 31) (o : Int32) : f_X8_sign (mS u (i3 p) o) v = some (sg n S p) := by
  have hn := hT.1
  unfold f_X8_sign sg
  show (if u.2.1 ≤ i3 p then _ else if i3 p < 0 ∨ 120 ≤ (i3 p).toNatClampNeg then none else some (v (i3 p).toNatClampNeg)) = _
  rw [hu]
  by_cases hlt : p < n
  · rw [if_neg (by rw [i3_le (by omega) hp]; omega), if_neg (i3_in (by omega) (by decide)), i3_nat hp, if_pos hlt, (hT.2 p hlt).1]
  · rw [if_pos (by rw [i3_le (by omega) hp]; omega), if_neg hlt]
/-- the place of a sign among those that are allowed -/
def ixq (i : Nat) (s : Int32) : Int32 := if i = 0 then (if s = 80 then 0 else -1) else if i = 1 then (if s = 108 then 0 else if s = 104 then 1 else if s = 116 then 2 else -1) else if i = 2 then (if s = 119 then 0 else if s = 97 then 1 else -1) else if i = 3 then (if s = 118 then 0 else -1) else (if s = 46 then 0 else -1)
theorem ix_tab : ∀ i, i < 5 → ∀ k, k < 256 → f_J0_indexOf_0f7a4 i (((i3 k).toUInt32 % 65536).toInt32) = some (ixq i (i3 k)) := by decide +kernel
theorem ix_m1 : ∀ i, i < 5 → ixq i (-1) = -1 := by decide
theorem one_ok {i n p : Nat} {S v : Fn} {x : TXv} (hi : i < 5) (h : TXs n p false S x) (hT : TxR n S v) (hp : p < 2 ^ 30) : f_X6_readOneOf i x = some (if 0 ≤ ixq i (sg n S p) then (ixq i (sg n S p), atx x (i3 (p + 1))) else ((0 : Int32), wrx x)) := by
  have e1 : x.2.1 + (1 : Int32) = i3 (p + 1) := by rw [h.2.1]; exact i3_add p 1
  unfold f_X6_readOneOf
  rw [next_ok h hT.1 (by omega), Option.bind_some]
  rcases sg_cases hT p with hs | ⟨-, k, hk, hs⟩
  · rw [hs, if_pos rfl, ix_m1 i hi]
    rfl
  · rw [hs, if_neg (i3_m1 (by omega)), ix_tab i hi k hk, Option.bind_some]
    unfold f_X6_readOneOf_b20
    by_cases h0 : 0 ≤ ixq i (i3 k)
    · rw [if_pos h0, if_pos h0, e1]
    · rw [if_neg h0, if_neg h0]
theorem one_wr {n p : Nat} {S : Fn} {x : TXv} (i : Nat) (h : TXs n p true S x) : f_X6_readOneOf i x = some ((0 : Int32), wrx x) := by
  unfold f_X6_readOneOf
  rw [next_wr h, Option.bind_some, if_pos rfl]
  rfl
theorem dt1 : ∀ k, k < 256 → ∀ a, a < 10 → (i3 k - (48 : Int32) < i3 a ↔ k < 48 + a) ∧ (i3 k - (48 : Int32) ≤ i3 a ↔ k ≤ 48 + a) := by decide +kernel
theorem dt2 : ∀ a, a < 10 → (-1 : Int32) - (48 : Int32) < i3 a := by decide +kernel
theorem dt4 : ∀ k, k < 256 → (((0 : Int32) ≤ i3 k - (48 : Int32) ∧ i3 k - (48 : Int32) ≤ (9 : Int32)) ↔ (48 ≤ k ∧ k ≤ 57)) := by decide +kernel
theorem dig_ok {n p lo hi : Nat} {S v : Fn} {x : TXv} (h : TXs n p false S x) (hT : TxR n S v) (hp : p < 2 ^ 30) (hlo : lo < 10) (hhi : hi < 10) : (∃ d, lo ≤ d ∧ d ≤ hi ∧ sg n S p = i3 (48 + d) ∧ f_X6_readDigit x (i3 lo) (i3 hi) = some (i3 d, atx x (i3 (p + 1)))) ∨ ((∀ d, lo ≤ d → d ≤ hi → ¬ sg n S p = i3 (48 + d)) ∧ f_X6_readDigit x (i3 lo) (i3 hi) = some (i3 lo, wrx x)) := by
  have e1 : x.2.1 + (1 : Int32) = i3 (p + 1) := by rw [h.2.1]; exact i3_add p 1
  unfold f_X6_readDigit f_X6_readDigit_b18
  rw [next_ok h hT.1 (by omega), Option.bind_some, e1]
  rcases sg_cases hT p with hs | ⟨-, k, hk, hs⟩
  · rw [hs, if_pos (dt2 lo hlo)]
    exact Or.inr ⟨fun d _ h2 z => i3_m1 (show 48 + d < 2 ^ 31 by omega) z.symm, rfl⟩
  · rw [hs]
    by_cases c1 : k < 48 + lo
    · rw [if_pos ((dt1 k hk lo hlo).1.mpr c1)]
      exact Or.inr ⟨fun d h1 h2 z => by have := (i3_eq (by omega) (by omega)).mp z; omega, rfl⟩
    · rw [if_neg (fun z => c1 ((dt1 k hk lo hlo).1.mp z))]
      by_cases c2 : k ≤ 48 + hi
      · rw [if_pos ((dt1 k hk hi hhi).2.mpr c2)]
        have e2 : i3 k - (48 : Int32) = i3 (k - 48) := i3_sub (a := k) (b := 48) (by omega)
        rw [e2]
        exact Or.inl ⟨k - 48, by omega, by omega, congrArg i3 (by omega), rfl⟩
      · rw [if_neg (fun z => c2 ((dt1 k hk hi hhi).2.mp z))]
        exact Or.inr ⟨fun d h1 h2 z => by have := (i3_eq (by omega) (by omega)).mp z; omega, rfl⟩
theorem dig_wr {n p lo : Nat} {S : Fn} {x : TXv} (h : TXs n p true S x) (hlo : lo < 10) (y : Int32) : f_X6_readDigit x (i3 lo) y = some (i3 lo, wrx x) := by
  unfold f_X6_readDigit f_X6_readDigit_b18
  rw [next_wr h, Option.bind_some, if_pos (dt2 lo hlo)]
/-- one figure, by the reference -/
theorem fig_step {n p lo hi V U : Nat} {S v : Fn} {u : MOv} {a : Int32} (hT : TxR n S v) (hu : u.2.1 = i3 n) (hp : p < 2 ^ 30) (o : Int32) (ha : ¬ a = (-1 : Int32)) (hU : 0 < U ∧ U ≤ 10) (hV : V ≤ 90) (hlo : lo < 100) (hhi : hi < 100) :
    (∃ d, d ≤ 9 ∧ sg n S p = i3 (48 + d) ∧ V + d * U ≤ hi ∧ lo ≤ V + d * U + U - 1 ∧ f_X8_figures_B16 v a (i3 lo) (i3 hi) (i3 V, i3 U, mS u (i3 p) o) = some (.inl (i3 (V + d * U), i3 (U / 10), mS u (i3 (p + 1)) o))) ∨ ((∀ d, d ≤ 9 → sg n S p = i3 (48 + d) → ¬ (V + d * U ≤ hi ∧ lo ≤ V + d * U + U - 1)) ∧ f_X8_figures_B16 v a (i3 lo) (i3 hi) (i3 V, i3 U, mS u (i3 p) o) = some (.inr (.inl (mS u (i3 p) o)))) := by
  have hin : ∀ s : Int32, f_X8_in (s - (48 : Int32)).toInt64 (0 : Int64) (9 : Int64) = some (decide ((0 : Int32) ≤ s - (48 : Int32) ∧ s - (48 : Int32) ≤ (9 : Int32))) := fun s => in32 (s - (48 : Int32)) 0 9
  have hU0 : ¬ i3 U ≤ 0 := by show ¬ i3 U ≤ i3 0; rw [i3_le (by omega) (by decide)]; omega
  have e10 : i3 U / (10 : Int32) = i3 (U / 10) := i3_div (by omega) (by decide : 10 < 2 ^ 31)
  have ep : i3 p + (1 : Int32) = i3 (p + 1) := i3_add p 1
  unfold f_X8_figures_B16
  rw [if_neg hU0, if_neg ha]
  show (∃ d, _) ∨ (_ ∧ (f_X8_sign (mS u (i3 p) o) v).bind _ = _)
  rw [sign_ok hT hu (by omega) o, Option.bind_some, hin, Option.bind_some]
  rcases sg_cases hT p with hs | ⟨-, k, hk, hs⟩
  · rw [hs, decide_eq_false (by decide), if_pos bfF]
    exact Or.inr ⟨fun d _ z => absurd z.symm (i3_m1 (by omega)), rfl⟩
  · rw [hs]
    by_cases c1 : 48 ≤ k ∧ k ≤ 57
    · have e2 : i3 k - (48 : Int32) = i3 (k - 48) := i3_sub (a := k) (b := 48) (by omega)
      have hd : k - 48 ≤ 9 := by omega
      have hk2 : k = 48 + (k - 48) := by omega
      rw [decide_eq_true ((dt4 k hk).mpr c1), if_neg bfT, e2, i3_mul, i3_add, i3_add, e10, ep]
      generalize k - 48 = d at hd hk2
      subst hk2
      have hdU : d * U ≤ 90 := Nat.le_trans (Nat.mul_le_mul hd hU.2) (by decide)
      have e3 : i3 (V + d * U + U) - (1 : Int32) = i3 (V + d * U + U - 1) := i3_sub (a := V + d * U + U) (b := 1) (by omega)
      rw [e3]
      have l1 : (i3 hi < i3 (V + d * U)) ↔ hi < V + d * U := i3_lt (by omega) (by omega)
      have l2 : (i3 lo ≤ i3 (V + d * U + U - 1)) ↔ lo ≤ V + d * U + U - 1 := i3_le (by omega) (by omega)
      have uq : ∀ d', d' ≤ 9 → i3 (48 + d) = i3 (48 + d') → d' = d := fun d' h9 z => by have := (i3_eq (by omega) (by omega)).mp z; omega
      by_cases c2 : hi < V + d * U
      · rw [if_pos (l1.mpr c2)]
        exact Or.inr ⟨fun d' h9 z => by rw [uq d' h9 z]; omega, rfl⟩
      · rw [if_neg (fun z => c2 (l1.mp z))]
        by_cases c3 : lo ≤ V + d * U + U - 1
        · rw [if_pos (l2.mpr c3)]
          exact Or.inl ⟨d, hd, rfl, by omega, c3, rfl⟩
        · rw [if_neg (fun z => c3 (l2.mp z))]
          exact Or.inr ⟨fun d' h9 z => by rw [uq d' h9 z]; omega, rfl⟩
    · rw [decide_eq_false (fun z => c1 ((dt4 k hk).mp z)), if_pos bfF]
      exact Or.inr ⟨fun d h9 z => by have := (i3_eq (by omega) (by omega)).mp z; omega, rfl⟩
theorem fig_ahead (u : MOv) (v : Fn) (two lo hi : Int32) : f_X8_figures u v (-1 : Int32) two lo hi = some ((-1 : Int32), u) := by
  have key : ∀ y0 : Int32, f_X8_figures_b14 u v (-1 : Int32) lo hi (0 : Int32) y0 = some ((-1 : Int32), u) := fun y0 => by
    have hB : f_X8_figures_B16 v (-1 : Int32) lo hi ((0 : Int32), y0, u) = some (.inr (.inr ((0 : Int32), u))) := by
      unfold f_X8_figures_B16
      by_cases h : y0 ≤ 0
      · rw [if_pos h]
      · rw [if_neg h, if_pos rfl]
    have hl : itl (f_X8_figures_B16 v (-1 : Int32) lo hi) FU ((0 : Int32), y0, u) = some (.inr ((0 : Int32), u)) := by
      show (f_X8_figures_B16 v (-1 : Int32) lo hi ((0 : Int32), y0, u)).bind _ = _
      rw [hB]
      rfl
    unfold f_X8_figures_b14
    rw [hl]
    rfl
  unfold f_X8_figures
  by_cases h : two = (2 : Int32)
  · rw [if_pos h]; exact key _
  · rw [if_neg h]; exact key _
theorem mxs : ∀ lo, lo < 21 → ∀ d, d < 10 → (if (0 : Int32) < (i3 lo - (10 : Int32) * i3 d) then (i3 lo - (10 : Int32) * i3 d) else (0 : Int32)) = i3 (lo - 10 * d) := by decide +kernel
theorem mns : ∀ hi, hi < 21 → ∀ d, d < 10 → 10 * d ≤ hi → (if (i3 hi - (10 : Int32) * i3 d) < (9 : Int32) then (i3 hi - (10 : Int32) * i3 d) else (9 : Int32)) = i3 (if hi - 10 * d < 9 then hi - 10 * d else 9) := by decide +kernel
/-- a number of two digits, by both -/
theorem num_both {n p lo hi : Nat} {S v : Fn} {x : TXv} {u : MOv} {a : Int32} (h : TXs n p false S x) (hT : TxR n S v) (hu : u.2.1 = i3 n) (hp : p < 1000) (o : Int32) (ha : ¬ a = (-1 : Int32)) (hlo : lo < 10) (hlh : lo ≤ hi) (hhi : hi < 21) :
    (∃ w, lo ≤ w ∧ w ≤ hi ∧ p + 2 ≤ n ∧ f_X6_readNumber x (i3 lo) (i3 hi) = some (i3 w, atx x (i3 (p + 2))) ∧ f_X8_figures (mS u (i3 p) o) v a (2 : Int32) (i3 lo) (i3 hi) = some (i3 w, mS u (i3 (p + 2)) o)) ∨ (∃ y x' q, q ≤ n + 1000 ∧ f_X6_readNumber x (i3 lo) (i3 hi) = some (y, x') ∧ TXs n q true S x' ∧ f_X8_figures (mS u (i3 p) o) v a (2 : Int32) (i3 lo) (i3 hi) = some ((-1 : Int32), mS u (i3 q) o)) := by
  have d1 : i3 lo / (10 : Int32) = i3 (lo / 10) := i3_div (by omega) (by decide : 10 < 2 ^ 31)
  have d2 : i3 hi / (10 : Int32) = i3 (hi / 10) := i3_div (by omega) (by decide : 10 < 2 ^ 31)
  have F0 : ∀ r, f_X8_figures_b14 (mS u (i3 p) o) v a (i3 lo) (i3 hi) (0 : Int32) (10 : Int32) = r → f_X8_figures (mS u (i3 p) o) v a (2 : Int32) (i3 lo) (i3 hi) = r := fun r hr => by
    unfold f_X8_figures
    rw [if_pos rfl]
    exact hr
  have F1 : ∀ q, itl (f_X8_figures_B16 v a (i3 lo) (i3 hi)) FU (i3 0, i3 10, mS u (i3 p) o) = some (.inl (mS u (i3 q) o)) → f_X8_figures (mS u (i3 p) o) v a (2 : Int32) (i3 lo) (i3 hi) = some ((-1 : Int32), mS u (i3 q) o) := fun q hq => F0 _ (by
    unfold f_X8_figures_b14
    have hq' : itl (f_X8_figures_B16 v a (i3 lo) (i3 hi)) FU ((0 : Int32), (10 : Int32), mS u (i3 p) o) = _ := hq
    rw [hq']
    rfl)
  have F2 : ∀ w q, itl (f_X8_figures_B16 v a (i3 lo) (i3 hi)) FU (i3 0, i3 10, mS u (i3 p) o) = some (.inr (i3 w, mS u (i3 q) o)) → f_X8_figures (mS u (i3 p) o) v a (2 : Int32) (i3 lo) (i3 hi) = some (i3 w, mS u (i3 q) o) := fun w q hq => F0 _ (by
    unfold f_X8_figures_b14 f_X8_figures_b102
    have hq' : itl (f_X8_figures_B16 v a (i3 lo) (i3 hi)) FU ((0 : Int32), (10 : Int32), mS u (i3 p) o) = _ := hq
    rw [hq', Option.bind_some]
    exact if_neg ha)
  have I1 : ∀ (z : Int32 × Int32 × MOv) (N : Nat) (e : MOv ⊕ (Int32 × MOv)), f_X8_figures_B16 v a (i3 lo) (i3 hi) z = some (.inr e) → itl (f_X8_figures_B16 v a (i3 lo) (i3 hi)) (N + 1) z = some e := fun z N e hz => by
    show (f_X8_figures_B16 v a (i3 lo) (i3 hi) z).bind _ = _
    rw [hz]
    rfl
  have I2 : ∀ (z z' : Int32 × Int32 × MOv) (N : Nat) (e : MOv ⊕ (Int32 × MOv)), f_X8_figures_B16 v a (i3 lo) (i3 hi) z = some (.inl z') → itl (f_X8_figures_B16 v a (i3 lo) (i3 hi)) N z' = some e → itl (f_X8_figures_B16 v a (i3 lo) (i3 hi)) (N + 1) z = some e := fun z z' N e hz hz' => by
    show (f_X8_figures_B16 v a (i3 lo) (i3 hi) z).bind _ = _
    rw [hz]
    exact hz'
  unfold f_X6_readNumber
  rw [d1, d2]
  rcases dig_ok h hT (show p < 2 ^ 30 by omega) (show lo / 10 < 10 by omega) (show hi / 10 < 10 by omega) with ⟨d, g1, g2, g3, g4⟩ | ⟨g1, g2⟩
  · rw [g4, Option.bind_some]
    show (∃ w, _ ∧ _ ∧ _ ∧ (f_X6_readDigit (atx x (i3 (p + 1))) (if (0 : Int32) < (i3 lo - (10 : Int32) * i3 d) then (i3 lo - (10 : Int32) * i3 d) else (0 : Int32)) (if (i3 hi - (10 : Int32) * i3 d) < (9 : Int32) then (i3 hi - (10 : Int32) * i3 d) else (9 : Int32))).bind (fun q314 => some ((10 : Int32) * i3 d + q314.1, q314.2)) = _ ∧ _) ∨ (∃ y x' q, _ ∧ (f_X6_readDigit (atx x (i3 (p + 1))) (if (0 : Int32) < (i3 lo - (10 : Int32) * i3 d) then (i3 lo - (10 : Int32) * i3 d) else (0 : Int32)) (if (i3 hi - (10 : Int32) * i3 d) < (9 : Int32) then (i3 hi - (10 : Int32) * i3 d) else (9 : Int32))).bind (fun q314 => some ((10 : Int32) * i3 d + q314.1, q314.2)) = _ ∧ _)
    have hd9 : d < 10 := by omega
    have m9 : (if hi - 10 * d < 9 then hi - 10 * d else 9) < 10 := by split <;> omega
    rw [mxs lo (by omega) d hd9, mns hi hhi d hd9 (by omega)]
    rcases fig_step (a := a) (V := 0) (U := 10) hT hu (show p < 2 ^ 30 by omega) o ha (by decide) (by decide) (show lo < 100 by omega) (show hi < 100 by omega) with ⟨d', k1, k2, k3, k4, k5⟩ | ⟨k1, -⟩
    · have hdd : d' = d := by
        rw [g3] at k2
        have := (i3_eq (by omega) (by omega)).mp k2
        omega
      subst hdd
      have e0 : 0 + d' * 10 = 10 * d' := by omega
      rw [e0] at k5
      have hpn : p < n := sg_in (by omega) g3
      rcases dig_ok (h.at (p + 1)) hT (show p + 1 < 2 ^ 30 by omega) (show lo - 10 * d' < 10 by omega) m9 with ⟨e, j1, j2, j3, j4⟩ | ⟨j1, j2⟩
      · have hpn1 : p + 1 < n := sg_in (by split at j2 <;> omega) j3
        have j2' : e ≤ 9 ∧ 10 * d' + e ≤ hi := by split at j2 <;> omega
        rw [j4, Option.bind_some]
        refine Or.inl ⟨10 * d' + e, by omega, j2'.2, by omega, ?_, F2 _ _ ?_⟩
        · have ee : (10 : Int32) * i3 d' + i3 e = i3 (10 * d' + e) := by rw [show (10 : Int32) * i3 d' = i3 (10 * d') from i3_mul 10 d', i3_add]
          show some ((10 : Int32) * i3 d' + i3 e, atx x (i3 (p + 1 + 1))) = _
          rw [ee]
        · rcases fig_step (p := p + 1) (a := a) (V := 10 * d') (U := 1) hT hu (show p + 1 < 2 ^ 30 by omega) o ha (by decide) (by omega) (show lo < 100 by omega) (show hi < 100 by omega) with ⟨e', q1, q2, q3, q4, q5⟩ | ⟨q1, -⟩
          · have hee : e' = e := by
              rw [j3] at q2
              have := (i3_eq (by omega) (by omega)).mp q2
              omega
            subst hee
            rw [Nat.mul_one] at q5
            refine I2 _ _ 5999 _ k5 (I2 _ _ 5998 _ q5 (I1 _ 5997 _ ?_))
            unfold f_X8_figures_B16
            exact if_pos (by decide : i3 (1 / 10) ≤ 0)
          · exact absurd ⟨by omega, by omega⟩ (q1 e j2'.1 j3)
      · rw [j2, Option.bind_some]
        refine Or.inr ⟨_, _, p + 1, by omega, rfl, (h.at (p + 1)).wr, F1 _ ?_⟩
        rcases fig_step (p := p + 1) (a := a) (V := 10 * d') (U := 1) hT hu (show p + 1 < 2 ^ 30 by omega) o ha (by decide) (by omega) (show lo < 100 by omega) (show hi < 100 by omega) with ⟨e', q1, q2, q3, q4, -⟩ | ⟨-, q2⟩
        · exact absurd q2 (j1 e' (by omega) (by split <;> omega))
        · exact I2 _ _ 5999 _ k5 (I1 _ 5998 _ q2)
    · exact absurd ⟨by omega, by omega⟩ (k1 d (by omega) g3)
  · rw [g2, Option.bind_some]
    have hw := h.wr
    have hx1 : lo / 10 = 0 := by omega
    have hd : ∀ y z : Int32, (f_X6_readDigit (wrx x) (if (0 : Int32) < (i3 lo - (10 : Int32) * i3 (lo / 10)) then (i3 lo - (10 : Int32) * i3 (lo / 10)) else (0 : Int32)) z) = some (i3 (lo - 10 * (lo / 10)), wrx x) := fun y z => by
      rw [mxs lo (by omega) (lo / 10) (by omega)]
      exact dig_wr hw (by omega) z
    refine Or.inr ⟨(10 : Int32) * i3 (lo / 10) + i3 (lo - 10 * (lo / 10)), wrx x, p, by omega, ?_, hw, F1 _ ?_⟩
    · show (f_X6_readDigit (wrx x) (if (0 : Int32) < (i3 lo - (10 : Int32) * i3 (lo / 10)) then (i3 lo - (10 : Int32) * i3 (lo / 10)) else (0 : Int32)) _).bind _ = _
      rw [hd 0]
      rfl
    · rcases fig_step (a := a) (V := 0) (U := 10) hT hu (show p < 2 ^ 30 by omega) o ha (by decide) (by decide) (show lo < 100 by omega) (show hi < 100 by omega) with ⟨d', k1, k2, k3, k4, -⟩ | ⟨-, k2⟩
      · exact absurd k2 (g1 d' (by omega) (by omega))
      · exact I1 _ 5999 _ k2
theorem num_wr {n p lo : Nat} {S : Fn} {x : TXv} (h : TXs n p true S x) (hlo : lo < 10) (y : Int32) : ∃ z x', f_X6_readNumber x (i3 lo) y = some (z, x') ∧ TXs n p true S x' := by
  have d1 : i3 lo / (10 : Int32) = i3 (lo / 10) := i3_div (by omega) (by decide : 10 < 2 ^ 31)
  have hw := h.wr
  unfold f_X6_readNumber
  rw [d1, dig_wr h (by omega), Option.bind_some]
  show ∃ z x', (f_X6_readDigit (wrx x) (if (0 : Int32) < (i3 lo - (10 : Int32) * i3 (lo / 10)) then (i3 lo - (10 : Int32) * i3 (lo / 10)) else (0 : Int32)) _).bind _ = _ ∧ _
  rw [mxs lo (by omega) (lo / 10) (by omega), dig_wr hw (by omega)]
  exact ⟨_, _, rfl, hw.wr⟩
