/-! ===== the reference: which cases fit ===== -/
def allB (p : Nat → Bool) : Nat → Bool
  | 0 => true
  | n + 1 => allB p n && p n
theorem allB_iff {p : Nat → Bool} : ∀ {n : Nat}, allB p n = true ↔ ∀ i, i < n → p i = true := by
  intro n
  induction n with
  | zero => exact ⟨fun _ i hi => absurd hi (Nat.not_lt_zero i), fun _ => rfl⟩
  | succ n ih =>
    show (allB p n && p n) = true ↔ _
    rw [Bool.and_eq_true_iff, ih]
    constructor
    · rintro ⟨h1, h2⟩ i hi
      by_cases hin : i = n
      · subst hin; exact h2
      · exact h1 i (by omega)
    · intro h
      exact ⟨fun i hi => h i (by omega), h n (by omega)⟩
theorem itl_all {S E1 E2 : Type} {f : S → Option (S ⊕ (E1 ⊕ E2))} (st : Nat → S) (p : Nat → Bool) (a : E1) (b : E2) (n : Nat) (hn : n < FU) (hs : ∀ i, i < n → f (st i) = some (if p i = true then .inl (st (i + 1)) else .inr (.inl a))) (he : f (st n) = some (.inr (.inr b))) : itl f FU (st 0) = some (if allB p n = true then .inr b else .inl a) := by
  have key : ∀ (N k : Nat), k ≤ n → n - k < N → allB p k = true → itl f N (st k) = some (if allB p n = true then .inr b else .inl a) := by
    intro N
    induction N with
    | zero => intro k _ h; exact absurd h (Nat.not_lt_zero _)
    | succ N ih =>
      intro k hk h hp
      show (f (st k)).bind _ = _
      by_cases hkn : k = n
      · subst hkn
        rw [he, if_pos hp]
        rfl
      · rw [hs k (by omega)]
        by_cases hpk : p k = true
        · rw [if_pos hpk]
          exact ih (k + 1) (by omega) (by omega) (by show (allB p k && p k) = true; rw [hp, hpk]; rfl)
        · rw [if_neg hpk]
          have hf : ¬ allB p n = true := fun z => hpk (allB_iff.mp z k (by omega))
          rw [if_neg hf]
          rfl
  exact key FU 0 (Nat.zero_le _) (by omega) rfl
/-- does a case fit the first m weighings of a row -/
def fitB (r : Fn) (m k : Nat) : Bool := allB (fun i => decide (oc (r (7 + 5 * i)) (r (8 + 5 * i)) (r (10 + 5 * i)) (r (11 + 5 * i)) k = r (9 + 5 * i))) m
def RowS (r : Fn) (m : Nat) : Prop := ∀ i, i < m → bt (r (7 + 5 * i)) 12 = false ∧ bt (r (8 + 5 * i)) 12 = false
theorem at_eq (i : Nat) : f_X8_at (i3 i) = some (i3 (7 + 5 * i)) := by
  unfold f_X8_at
  rw [show (5 : Int32) * i3 i = i3 (5 * i) from i3_mul 5 i]
  exact congrArg some (i3_add 7 (5 * i))
theorem fits_step {r : Fn} {m k i : Nat} (hr : RowS r m) (hm : m ≤ 20) (hk : k < 78) (hi : i < m) : f_X8_fits_B2 r (i3 k) (i3 m) (i3 i) = some (if decide (oc (r (7 + 5 * i)) (r (8 + 5 * i)) (r (10 + 5 * i)) (r (11 + 5 * i)) k = r (9 + 5 * i)) = true then .inl (i3 (i + 1)) else .inr (.inl ())) := by
  unfold f_X8_fits_B2
  rw [if_neg (by rw [i3_le (by omega) (by omega)]; omega), at_eq, Option.bind_some]
  rw [show i3 (7 + 5 * i) + (1 : Int32) = i3 (8 + 5 * i) from (i3_add _ 1).trans (by congr 1; omega), show i3 (7 + 5 * i) + (2 : Int32) = i3 (9 + 5 * i) from (i3_add _ 2).trans (by congr 1; omega), show i3 (7 + 5 * i) + (3 : Int32) = i3 (10 + 5 * i) from (i3_add _ 3).trans (by congr 1; omega), show i3 (7 + 5 * i) + (4 : Int32) = i3 (11 + 5 * i) from (i3_add _ 4).trans (by congr 1; omega)]
  rw [if_neg (i3_in (by omega) (by decide)), if_neg (i3_in (by omega) (by decide)), if_neg (i3_in (by omega) (by decide)), if_neg (i3_in (by omega) (by decide))]
  rw [i3_nat (by omega), i3_nat (by omega), i3_nat (by omega), i3_nat (by omega), outc_eq (hr i hi).1 (hr i hi).2 hk, Option.bind_some, if_neg (i3_in (by omega) (by decide)), i3_nat (by omega)]
  by_cases h : oc (r (7 + 5 * i)) (r (8 + 5 * i)) (r (10 + 5 * i)) (r (11 + 5 * i)) k = r (9 + 5 * i)
  · rw [if_pos h, if_pos (decide_eq_true h)]
    exact congrArg (fun z => some (Sum.inl z)) (i3_add i 1)
  · rw [if_neg h, if_neg (by simpa using h)]
theorem fits_eq {r : Fn} {m k : Nat} (hr : RowS r m) (hm : m ≤ 20) (hk : k < 78) : f_X8_fits r (i3 k) (i3 m) = some (fitB r m k) := by
  unfold f_X8_fits
  have hl := itl_all (f := f_X8_fits_B2 r (i3 k) (i3 m)) (fun i => i3 i) (fun i => decide (oc (r (7 + 5 * i)) (r (8 + 5 * i)) (r (10 + 5 * i)) (r (11 + 5 * i)) k = r (9 + 5 * i))) () () m (by unfold FU; omega) (fun i hi => fits_step hr hm hk hi) (by
    unfold f_X8_fits_B2
    rw [if_pos (by rw [i3_le (by omega) (by omega)]; exact Nat.le_refl _)])
  have hl' : itl (f_X8_fits_B2 r (i3 k) (i3 m)) FU (0 : Int32) = _ := hl
  rw [hl']
  unfold fitB
  cases allB (fun i => decide (oc (r (7 + 5 * i)) (r (8 + 5 * i)) (r (10 + 5 * i)) (r (11 + 5 * i)) k = r (9 + 5 * i))) m <;> rfl
def nC (c : Nat) : Nat := 3 * (2 * c + 1)
theorem allOf_eq (c : Nat) : f_X8_allOf (i3 c) = some (i3 (nC c)) := by
  unfold f_X8_allOf
  rw [show (2 : Int32) * i3 c = i3 (2 * c) from i3_mul 2 c, show i3 (2 * c) + (1 : Int32) = i3 (2 * c + 1) from i3_add _ 1]
  exact congrArg some (i3_mul 3 _)
theorem casesOf_eq (c : Nat) : f_X7_casesOf (i3 c) = some (i3 (nC c)) := by
  unfold f_X7_casesOf
  rw [show (2 : Int32) * i3 c = i3 (2 * c) from i3_mul 2 c, show i3 (2 * c) + (1 : Int32) = i3 (2 * c + 1) from i3_add _ 1]
  exact congrArg some (i3_mul 3 _)
theorem nC_lt {c : Nat} (hc : c < 13) : nC c ≤ 75 := by unfold nC; omega
theorem b2i_val (b : Bool) : b2i b = i3 b.toNat := by cases b <;> rfl
theorem b2i0 (b : Bool) : (b2i b = 0) ↔ b = false := by cases b <;> decide
theorem many_step {r : Fn} {m c k n : Nat} (hr : RowS r m) (hm : m ≤ 20) (h0 : r 0 = i3 c) (hc : c < 13) (hk : k < nC c) : f_X8_many_B4 r (i3 m) (i3 n, i3 k) = some (.inl (i3 (n + (fitB r m k).toNat), i3 (k + 1))) := by
  have h75 := nC_lt hc
  unfold f_X8_many_B4 f_X8_many_B4_b29
  rw [show r (0 : Int32).toNatClampNeg = i3 c from h0, allOf_eq, Option.bind_some, if_neg (by show ¬ i3 (nC c) ≤ i3 k; rw [i3_le (by omega) (by omega)]; omega), fits_eq hr hm (by omega), Option.bind_some]
  show (if b2i (fitB r m k) = 0 then some (Sum.inl (i3 n + b2i false, i3 k + i3 1)) else some (Sum.inl (i3 n + b2i true, i3 k + i3 1)) : Option ((Int32 × Int32) ⊕ Int32)) = _
  rw [b2i_val false, b2i_val true, i3_add, i3_add, i3_add]
  cases h : fitB r m k
  · rw [if_pos ((b2i0 _).mpr rfl)]
  · rw [if_neg (show ¬ b2i true = 0 by decide)]
theorem many_eq {r : Fn} {m c : Nat} (hr : RowS r m) (hm : m ≤ 20) (h0 : r 0 = i3 c) (hc : c < 13) : f_X8_many r (i3 m) = some (i3 (sm (fun k => (fitB r m k).toNat) (nC c))) := by
  have h75 := nC_lt hc
  unfold f_X8_many
  have hl := itl_for (f := f_X8_many_B4 r (i3 m)) (fun k => (i3 (sm (fun k => (fitB r m k).toNat) k), i3 k)) (nC c) (e := i3 (sm (fun k => (fitB r m k).toNat) (nC c))) (by unfold FU; omega) (fun k hk => many_step hr hm h0 hc hk) (by
    unfold f_X8_many_B4
    rw [show r (0 : Int32).toNatClampNeg = i3 c from h0, allOf_eq, Option.bind_some, if_pos (by show i3 (nC c) ≤ i3 (nC c); rw [i3_le (by omega) (by omega)]; exact Nat.le_refl _)])
  have hl' : itl (f_X8_many_B4 r (i3 m)) FU ((0 : Int32), (0 : Int32)) = _ := hl
  rw [hl']
  rfl
/-- the cases of c coins that fit m weighings -/
def PR (r : Fn) (c m k : Nat) : Bool := decide (k < nC c) && fitB r m k
theorem sm_cut {p : Nat → Nat} {n : Nat} : ∀ d, sm (fun k => if k < n then p k else 0) (n + d) = sm p n := by
  intro d
  induction d with
  | zero => exact sm_cong (fun i hi => if_pos hi)
  | succ d ih =>
    show sm (fun k => if k < n then p k else 0) (n + d) + (if n + d < n then p (n + d) else 0) = _
    rw [ih, if_neg (by omega)]
    rfl
theorem PR_sm (r : Fn) {c : Nat} (hc : c < 13) (m : Nat) : sm (fun k => (PR r c m k).toNat) 78 = sm (fun k => (fitB r m k).toNat) (nC c) := by
  have h75 := nC_lt hc
  have h := sm_cut (p := fun k => (fitB r m k).toNat) (n := nC c) (78 - nC c)
  rw [show nC c + (78 - nC c) = 78 by omega] at h
  rw [← h]
  refine sm_cong (fun k _ => ?_)
  unfold PR
  by_cases hk : k < nC c
  · rw [if_pos hk, decide_eq_true hk]; rfl
  · rw [if_neg hk, decide_eq_false hk]; rfl
theorem many_PR {r : Fn} {m c : Nat} (hr : RowS r m) (hm : m ≤ 20) (h0 : r 0 = i3 c) (hc : c < 13) : f_X8_many r (i3 m) = some (i3 (sm (fun k => (PR r c m k).toNat) 78)) := by
  rw [PR_sm r hc m]
  exact many_eq hr hm h0 hc
theorem leftOf_eq {r : Fn} {m c : Nat} (hr : RowS r m) (hm : m ≤ 20) (h0 : r 0 = i3 c) (h4 : r 4 = i3 m) (hc : c < 13) : f_X8_leftOf r = some (i3 (sm (fun k => (PR r c m k).toNat) 78)) := by
  unfold f_X8_leftOf
  rw [show r (4 : Int32).toNatClampNeg = i3 m from h4, many_PR hr hm h0 hc]
  rfl
