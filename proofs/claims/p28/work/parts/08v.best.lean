/-! ===== the best weighing: sets in their order ===== -/
theorem itl_inv {S E : Type} {f : S → Option (S ⊕ E)} (I : Nat → S → Prop) (Q : E → Prop) (n : Nat) (hs : ∀ i z, i < n → I i z → ∃ z', f z = some (.inl z') ∧ I (i + 1) z') (he : ∀ z, I n z → ∃ e, f z = some (.inr e) ∧ Q e) (z0 : S) (h0 : I 0 z0) (hn : n < FU) : ∃ e, itl f FU z0 = some e ∧ Q e := by
  have key : ∀ (N k : Nat) (z : S), k ≤ n → n - k < N → I k z → ∃ e, itl f N z = some e ∧ Q e := by
    intro N
    induction N with
    | zero => intro k z _ h; exact absurd h (Nat.not_lt_zero _)
    | succ N ih =>
      intro k z hk h hI
      by_cases hkn : k = n
      · subst hkn
        obtain ⟨e, h1, h2⟩ := he z hI
        refine ⟨e, ?_, h2⟩
        show (f z).bind _ = _
        rw [h1]
        rfl
      · obtain ⟨z', h1, h2⟩ := hs k z (by omega) hI
        obtain ⟨e, h3, h4⟩ := ih (k + 1) z' (by omega) (by omega) h2
        refine ⟨e, ?_, h4⟩
        show (f z).bind _ = _
        rw [h1]
        exact h3
  exact key FU 0 z0 (Nat.zero_le n) (by omega) h0
/-- how many bits a number has -/
def pcn (n : Nat) : Nat := sm (fun b => (n.testBit b).toNat) 12
theorem bits_i3 {n : Nat} (hn : n < 4096) : f_X8_bits (i3 n) = some (i3 (pcn n)) := by
  rw [bits_eq]
  unfold pcn
  exact congrArg (fun z => some (i3 z)) (sm_cong (fun b _ => by rw [bt_i3 (by omega)]))
theorem pcn_le (n : Nat) : pcn n ≤ 12 := by
  have h := sm_le (f := fun b => (n.testBit b).toNat) (c := 1) (n := 12) (fun i _ => by cases n.testBit i <;> decide)
  unfold pcn
  omega
/-- the numbers below 2 ^ c that have j bits -/
def stj (j c : Nat) : List Nat := (List.range (2 ^ c)).filter (fun n => decide (pcn n = j))
theorem stj_lt {j c n : Nat} (h : n ∈ stj j c) : n < 2 ^ c := by
  unfold stj at h
  exact List.mem_range.mp (List.mem_filter.mp h).1
/-- the class's list of sets -/
def LsR (S : Fn) (nS j : Nat) : Prop := ∀ c, 3 ≤ c → c ≤ 12 → (stj j c).length ≤ nS ∧ (∀ i, i < (stj j c).length → S i = i3 ((stj j c).getD i 0)) ∧ ((stj j c).length < nS → ∃ x, x < 2 ^ 20 ∧ 2 ^ c ≤ x ∧ S (stj j c).length = i3 x)
def tb1 : List Nat := (List.range 12).map (fun i => 2 ^ i)
def tb2 : List Nat := ((List.range 12).map (fun h => (List.range h).map (fun l => 2 ^ h + 2 ^ l))).flatten
theorem w12_ok : (f_X7_setsOfOne (fun _ => (0 : Int32))).isSome = true ∧ ∀ i, i < 12 → (f_X7_setsOfOne (fun _ => (0 : Int32))).getD (fun _ => 0) i = i3 (tb1.getD i 0) := by decide +kernel
theorem w66_ok : (f_X7_setsOfTwo (fun _ => (0 : Int32))).isSome = true ∧ ∀ i, i < 66 → (f_X7_setsOfTwo (fun _ => (0 : Int32))).getD (fun _ => 0) i = i3 (tb2.getD i 0) := by decide +kernel
theorem tb1_ok : ∀ c, c < 13 → 3 ≤ c → stj 1 c = tb1.take (stj 1 c).length ∧ (stj 1 c).length ≤ 12 ∧ ((stj 1 c).length < 12 → 2 ^ c ≤ tb1.getD (stj 1 c).length 0) := by decide +kernel
theorem tb2_ok : ∀ c, c < 13 → 3 ≤ c → stj 2 c = tb2.take (stj 2 c).length ∧ (stj 2 c).length ≤ 66 ∧ ((stj 2 c).length < 66 → 2 ^ c ≤ tb2.getD (stj 2 c).length 0) := by decide +kernel
theorem tb1_lt : ∀ i, i < 12 → tb1.getD i 0 < 2 ^ 20 := by decide +kernel
theorem tb2_lt : ∀ i, i < 66 → tb2.getD i 0 < 2 ^ 20 := by decide +kernel
theorem take_getD {L : List Nat} {n i : Nat} (h : i < n) : (L.take n).getD i 0 = L.getD i 0 := by
  rw [List.getD_eq_getElem?_getD, List.getD_eq_getElem?_getD, List.getElem?_take_of_lt h]
theorem w12_LsR : ∃ w, f_X7_setsOfOne (fun _ => (0 : Int32)) = some w ∧ LsR w 12 1 := by
  obtain ⟨h1, h2⟩ := w12_ok
  cases h : f_X7_setsOfOne (fun _ => (0 : Int32)) with
  | none => rw [h] at h1; exact nomatch h1
  | some w =>
    rw [h] at h2
    have h2 : ∀ i, i < 12 → w i = i3 (tb1.getD i 0) := h2
    refine ⟨w, rfl, fun c h3 h12 => ?_⟩
    obtain ⟨k1, k2, k3⟩ := tb1_ok c (by omega) h3
    refine ⟨k2, fun i hi => ?_, fun hlt => ⟨tb1.getD (stj 1 c).length 0, tb1_lt _ hlt, k3 hlt, h2 _ hlt⟩⟩
    rw [h2 i (by omega), k1, take_getD hi]
theorem w66_LsR : ∃ w, f_X7_setsOfTwo (fun _ => (0 : Int32)) = some w ∧ LsR w 66 2 := by
  obtain ⟨h1, h2⟩ := w66_ok
  cases h : f_X7_setsOfTwo (fun _ => (0 : Int32)) with
  | none => rw [h] at h1; exact nomatch h1
  | some w =>
    rw [h] at h2
    have h2 : ∀ i, i < 66 → w i = i3 (tb2.getD i 0) := h2
    refine ⟨w, rfl, fun c h3 h12 => ?_⟩
    obtain ⟨k1, k2, k3⟩ := tb2_ok c (by omega) h3
    refine ⟨k2, fun i hi => ?_, fun hlt => ⟨tb2.getD (stj 2 c).length 0, tb2_lt _ hlt, k3 hlt, h2 _ hlt⟩⟩
    rw [h2 i (by omega), k1, take_getD hi]
