/-! ===== the reference: laying out the cases, counting them ===== -/
/-- the laid out cases: L of them, each a case, and summing over them is summing over what fits -/
def GathR (v : Fn) (L : Nat) (P : Nat → Bool) (n : Nat) : Prop := L ≤ n ∧ (∀ t, t < L → ∃ k, k < 78 ∧ v t = i3 k) ∧ ∀ G : Nat → Nat, sm (fun t => G (v t).toNatClampNeg) L = sm (fun k => if P k = true then G k else 0) n
abbrev moL (v0 : MOv) (L : Int32) : MOv := (v0.1, v0.2.1, v0.2.2.1, L, v0.2.2.2.2.1, v0.2.2.2.2.2)
theorem gath_add {v : Fn} {L : Nat} {P : Nat → Bool} {k : Nat} (h : GathR v L P k) (hk : k < 78) (hp : P k = true) : GathR (upd v L (i3 k)) (L + 1) P (k + 1) := by
  refine ⟨Nat.succ_le_succ h.1, fun t ht => ?_, fun G => ?_⟩
  · by_cases e : t = L
    · subst e
      exact ⟨k, hk, by unfold upd; exact if_pos rfl⟩
    · obtain ⟨k', h1, h2⟩ := h.2.1 t (by omega)
      exact ⟨k', h1, by unfold upd; rw [if_neg e]; exact h2⟩
  · show sm _ L + G ((upd v L (i3 k) L).toNatClampNeg) = sm (fun k => if P k = true then G k else 0) k + (if P k = true then G k else 0)
    rw [if_pos hp, ← h.2.2 G, show upd v L (i3 k) L = i3 k from if_pos rfl, i3_nat (by omega)]
    congr 1
    refine sm_cong (fun t ht => ?_)
    show G (upd v L (i3 k) t).toNatClampNeg = _
    rw [show upd v L (i3 k) t = v t from if_neg (by omega)]
theorem gath_skip {v : Fn} {L : Nat} {P : Nat → Bool} {k : Nat} (h : GathR v L P k) (hp : ¬ P k = true) : GathR v L P (k + 1) := by
  refine ⟨Nat.le_succ_of_le h.1, h.2.1, fun G => ?_⟩
  show _ = sm (fun k => if P k = true then G k else 0) k + (if P k = true then G k else 0)
  rw [if_neg hp, h.2.2 G]
  rfl
theorem gath_step {r : Fn} {m c k L : Nat} {v0 : MOv} {v : Fn} (hr : RowS r m) (hm : m ≤ 20) (h0 : r 0 = i3 c) (h4 : r 4 = i3 m) (hc : c < 13) (hk : k < nC c) (h : GathR v L (fitB r m) k) : ∃ v' L', f_X8_gather_B7 r (i3 k, moL v0 (i3 L), v) = some (.inl (i3 (k + 1), moL v0 (i3 L'), v')) ∧ GathR v' L' (fitB r m) (k + 1) := by
  have h75 := nC_lt hc
  have hL := h.1
  unfold f_X8_gather_B7 f_X8_gather_B7_b48
  rw [show r (0 : Int32).toNatClampNeg = i3 c from h0, show r (4 : Int32).toNatClampNeg = i3 m from h4, allOf_eq, Option.bind_some, if_neg (by show ¬ i3 (nC c) ≤ i3 k; rw [i3_le (by omega) (by omega)]; omega), fits_eq hr hm (by omega), Option.bind_some]
  show ∃ v' L', (if b2i (fitB r m k) = 0 then some (Sum.inl (i3 k + i3 1, moL v0 (i3 L), v)) else if i3 L < 0 ∨ 75 ≤ (i3 L).toNatClampNeg then none else some (Sum.inl (i3 k + i3 1, moL v0 (i3 L + i3 1), upd v (i3 L).toNatClampNeg (i3 k))) : Option ((Int32 × MOv × Fn) ⊕ (MOv × Fn))) = _ ∧ _
  rw [i3_add, i3_add]
  by_cases hp : fitB r m k = true
  · refine ⟨upd v L (i3 k), L + 1, ?_, gath_add h (by omega) hp⟩
    rw [if_neg (by rw [hp]; decide), if_neg (i3_in (by omega) (by decide)), i3_nat (by omega)]
  · refine ⟨v, L, ?_, gath_skip h hp⟩
    rw [if_pos ((b2i0 _).mpr (by simpa using hp))]
theorem gather_eq {r : Fn} {m c : Nat} (hr : RowS r m) (hm : m ≤ 20) (h0 : r 0 = i3 c) (h4 : r 4 = i3 m) (hc : c < 13) (v0 : MOv) (v7 : Fn) : ∃ v L, f_X8_gather v0 v7 r = some (moL v0 (i3 L), v) ∧ GathR v L (fitB r m) (nC c) := by
  have h75 := nC_lt hc
  have key : ∀ (d k : Nat), k + d = nC c → ∀ (v : Fn) (L N : Nat), GathR v L (fitB r m) k → d < N → ∃ v' L', itl (f_X8_gather_B7 r) N (i3 k, moL v0 (i3 L), v) = some (moL v0 (i3 L'), v') ∧ GathR v' L' (fitB r m) (nC c) := by
    intro d
    induction d with
    | zero =>
      intro k hk v L N h hN
      have hk : k = nC c := by omega
      subst hk
      obtain ⟨N, rfl⟩ : ∃ N', N = N' + 1 := ⟨N - 1, by omega⟩
      refine ⟨v, L, ?_, h⟩
      show (f_X8_gather_B7 r (i3 (nC c), moL v0 (i3 L), v)).bind _ = _
      unfold f_X8_gather_B7
      rw [show r (0 : Int32).toNatClampNeg = i3 c from h0, allOf_eq, Option.bind_some, if_pos (by show i3 (nC c) ≤ i3 (nC c); rw [i3_le (by omega) (by omega)]; exact Nat.le_refl _)]
      rfl
    | succ d ih =>
      intro k hk v L N h hN
      obtain ⟨N, rfl⟩ : ∃ N', N = N' + 1 := ⟨N - 1, by omega⟩
      obtain ⟨v', L', h1, h2⟩ := gath_step (v0 := v0) hr hm h0 h4 hc (by omega) h
      obtain ⟨v2, L2, h3, h5⟩ := ih (k + 1) (by omega) v' L' N h2 (by omega)
      refine ⟨v2, L2, ?_, h5⟩
      show (f_X8_gather_B7 r (i3 k, moL v0 (i3 L), v)).bind _ = _
      rw [h1]
      exact h3
  obtain ⟨v, L, h1, h2⟩ := key (nC c) 0 (by omega) v7 0 FU ⟨Nat.le_refl _, fun t ht => absurd ht (Nat.not_lt_zero t), fun G => rfl⟩ (by unfold FU; omega)
  refine ⟨v, L, ?_, h2⟩
  unfold f_X8_gather
  have h1' : itl (f_X8_gather_B7 r) FU ((0 : Int32), (v0.1, v0.2.1, v0.2.2.1, (0 : Int32), v0.2.2.2.2.1, v0.2.2.2.2.2), v7) = _ := h1
  rw [h1']
  rfl
/-- the three counts -/
def oc3 (v : Fn) (a b la ra q : Int32) (t : Nat) : Nat := (decide (oc a b la ra (v t).toNatClampNeg = q)).toNat
def cts (v v8 : Fn) (a b la ra : Int32) (n : Nat) : Fn := fun j => if j = 0 then i3 (sm (oc3 v a b la ra 0) n) else if j = 1 then i3 (sm (oc3 v a b la ra 1) n) else if j = 2 then i3 (sm (oc3 v a b la ra 2) n) else v8 j
theorem cts_add (v v8 : Fn) (a b la ra : Int32) (n : Nat) {o : Int32} (ho : oc a b la ra (v n).toNatClampNeg = o) (hq : o = 0 ∨ o = 1 ∨ o = 2) : upd (cts v v8 a b la ra n) o.toNatClampNeg (cts v v8 a b la ra n o.toNatClampNeg + (1 : Int32)) = cts v v8 a b la ra (n + 1) := by
  have e : ∀ q, sm (oc3 v a b la ra q) (n + 1) = sm (oc3 v a b la ra q) n + (decide (o = q)).toNat := fun q => by
    show _ + oc3 v a b la ra q n = _
    unfold oc3
    rw [ho]
  have ad : ∀ x : Nat, i3 x + (1 : Int32) = i3 (x + 1) := fun x => i3_add x 1
  funext j
  unfold upd
  rcases hq with h | h | h <;> subst h
  · show (if j = 0 then i3 (sm (oc3 v a b la ra 0) n) + (1 : Int32) else cts v v8 a b la ra n j) = cts v v8 a b la ra (n + 1) j
    unfold cts
    rw [e 0, e 1, e 2, ad]
    by_cases h0 : j = 0
    · rw [if_pos h0, if_pos h0]; rfl
    · rw [if_neg h0, if_neg h0, if_neg h0]; rfl
  · show (if j = 1 then i3 (sm (oc3 v a b la ra 1) n) + (1 : Int32) else cts v v8 a b la ra n j) = cts v v8 a b la ra (n + 1) j
    unfold cts
    rw [e 0, e 1, e 2, ad]
    by_cases h0 : j = 1
    · subst h0; rfl
    · rw [if_neg h0, if_neg h0, if_neg h0]; rfl
  · show (if j = 2 then i3 (sm (oc3 v a b la ra 2) n) + (1 : Int32) else cts v v8 a b la ra n j) = cts v v8 a b la ra (n + 1) j
    unfold cts
    rw [e 0, e 1, e 2, ad]
    by_cases h0 : j = 2
    · subst h0; rfl
    · rw [if_neg h0, if_neg h0, if_neg h0]; rfl
theorem o_nat {o : Int32} (hq : o = 0 ∨ o = 1 ∨ o = 2) : ¬ (o < 0 ∨ 3 ≤ o.toNatClampNeg) := by
  rcases hq with h | h | h <;> subst h <;> decide
theorem worst_step {v0 : MOv} {v v8 : Fn} {L n : Nat} {P : Nat → Bool} {N : Nat} (hG : GathR v L P N) (hN : N ≤ 75) (a b la ra : Int32) (ha : bt a 12 = false) (hb : bt b 12 = false) (hn : n < L) : f_X8_worst_B24 (moL v0 (i3 L)) v a b la ra (i3 n, cts v v8 a b la ra n) = some (.inl (i3 (n + 1), cts v v8 a b la ra (n + 1))) := by
  have hL := hG.1
  obtain ⟨k, hk, hv⟩ := hG.2.1 n hn
  have hkn : (v n).toNatClampNeg = k := by rw [hv]; exact i3_nat (by omega)
  have hq := oc_le a b la ra k
  unfold f_X8_worst_B24
  rw [if_neg (by show ¬ i3 L ≤ i3 n; rw [i3_le (by omega) (by omega)]; omega), if_neg (i3_in (by omega) (by decide)), i3_nat (by omega), hv, outc_eq ha hb hk, Option.bind_some, if_neg (o_nat hq), if_neg (o_nat hq)]
  rw [cts_add v v8 a b la ra n (by rw [hkn]) hq]
  exact congrArg (fun z => some (Sum.inl (z, _))) (i3_add n 1)
theorem cts0 (v v8 : Fn) (a b la ra : Int32) : upd (upd (upd v8 (0 : Int32).toNatClampNeg (0 : Int32)) (1 : Int32).toNatClampNeg (0 : Int32)) (2 : Int32).toNatClampNeg (0 : Int32) = cts v v8 a b la ra 0 := by
  funext j
  show (if j = 2 then (0 : Int32) else if j = 1 then (0 : Int32) else if j = 0 then (0 : Int32) else v8 j) = (if j = 0 then (0 : Int32) else if j = 1 then (0 : Int32) else if j = 2 then (0 : Int32) else v8 j)
  by_cases h0 : j = 0
  · subst h0; rfl
  · by_cases h1 : j = 1
    · subst h1; rfl
    · by_cases h2 : j = 2
      · subst h2; rfl
      · simp only [h0, h1, h2, if_false]
def mx (x y : Nat) : Nat := if x ≤ y then y else x
theorem gath_cn {r v : Fn} {L m c : Nat} (hc : c < 13) (hG : GathR v L (fitB r m) (nC c)) (a b la ra q : Int32) : sm (oc3 v a b la ra q) L = cn (PR r c m) a b la ra q := by
  have h75 := nC_lt hc
  have h := hG.2.2 (fun k => (decide (oc a b la ra k = q)).toNat)
  have h1 : sm (oc3 v a b la ra q) L = sm (fun t => (fun k => (decide (oc a b la ra k = q)).toNat) (v t).toNatClampNeg) L := rfl
  rw [h1, h]
  have h2 := sm_cut (p := fun k => if fitB r m k = true then (decide (oc a b la ra k = q)).toNat else 0) (n := nC c) (78 - nC c)
  rw [show nC c + (78 - nC c) = 78 by omega] at h2
  rw [← h2]
  unfold cn
  refine sm_cong (fun k _ => ?_)
  unfold PR
  by_cases hk : k < nC c
  · rw [if_pos hk, decide_eq_true hk]
    cases fitB r m k <;> rfl
  · rw [if_neg hk, decide_eq_false hk]; rfl
theorem cn_le (P : Nat → Bool) (a b la ra q : Int32) : cn P a b la ra q ≤ 78 := by
  have h := sm_le (f := fun k => (P k && decide (oc a b la ra k = q)).toNat) (c := 1) (n := 78) (fun i _ => by cases (P i && decide (oc a b la ra i = q)) <;> decide)
  unfold cn
  omega
theorem worst_eq {r v : Fn} {L m c : Nat} (hc : c < 13) (hG : GathR v L (fitB r m) (nC c)) (v0 : MOv) (v8 : Fn) (a b la ra : Int32) (ha : bt a 12 = false) (hb : bt b 12 = false) : ∃ v8', f_X8_worst (moL v0 (i3 L)) v v8 a b la ra = some (i3 (mx (mx (cn (PR r c m) a b la ra 0) (cn (PR r c m) a b la ra 1)) (cn (PR r c m) a b la ra 2)), v8') ∧ v8' 0 = i3 (cn (PR r c m) a b la ra 0) ∧ v8' 1 = i3 (cn (PR r c m) a b la ra 1) ∧ v8' 2 = i3 (cn (PR r c m) a b la ra 2) := by
  have h75 := nC_lt hc
  have hL := hG.1
  have hl := itl_for (f := f_X8_worst_B24 (moL v0 (i3 L)) v a b la ra) (fun n => (i3 n, cts v v8 a b la ra n)) L (e := cts v v8 a b la ra L) (by unfold FU; omega) (fun n hn => worst_step hG h75 a b la ra ha hb hn) (by
    unfold f_X8_worst_B24
    rw [if_pos (by show i3 L ≤ i3 L; rw [i3_le (by omega) (by omega)]; exact Nat.le_refl _)])
  have e0 : cts v v8 a b la ra L 0 = i3 (cn (PR r c m) a b la ra 0) := by rw [← gath_cn hc hG]; rfl
  have e1 : cts v v8 a b la ra L 1 = i3 (cn (PR r c m) a b la ra 1) := by rw [← gath_cn hc hG]; rfl
  have e2 : cts v v8 a b la ra L 2 = i3 (cn (PR r c m) a b la ra 2) := by rw [← gath_cn hc hG]; rfl
  have l0 := cn_le (PR r c m) a b la ra 0
  have l1 := cn_le (PR r c m) a b la ra 1
  have l2 := cn_le (PR r c m) a b la ra 2
  generalize cn (PR r c m) a b la ra 0 = n0 at e0 l0 ⊢
  generalize cn (PR r c m) a b la ra 1 = n1 at e1 l1 ⊢
  generalize cn (PR r c m) a b la ra 2 = n2 at e2 l2 ⊢
  refine ⟨cts v v8 a b la ra L, ?_, e0, e1, e2⟩
  unfold f_X8_worst f_X8_worst_b93
  rw [cts0 v v8 a b la ra]
  have hl' : itl (f_X8_worst_B24 (moL v0 (i3 L)) v a b la ra) FU ((0 : Int32), cts v v8 a b la ra 0) = _ := hl
  rw [hl', Option.bind_some]
  show (if cts v v8 a b la ra L 0 ≤ cts v v8 a b la ra L 1 then (if cts v v8 a b la ra L 1 ≤ cts v v8 a b la ra L 2 then some (cts v v8 a b la ra L 2, cts v v8 a b la ra L) else some (cts v v8 a b la ra L 1, cts v v8 a b la ra L)) else (if cts v v8 a b la ra L 0 ≤ cts v v8 a b la ra L 2 then some (cts v v8 a b la ra L 2, cts v v8 a b la ra L) else some (cts v v8 a b la ra L 0, cts v v8 a b la ra L))) = _
  rw [e0, e1, e2]
  simp only [i3_le (show n0 < 2 ^ 31 by omega) (show n1 < 2 ^ 31 by omega), i3_le (show n1 < 2 ^ 31 by omega) (show n2 < 2 ^ 31 by omega), i3_le (show n0 < 2 ^ 31 by omega) (show n2 < 2 ^ 31 by omega)]
  unfold mx
  by_cases h1 : n0 ≤ n1
  · rw [if_pos h1, if_pos h1]
    by_cases h2 : n1 ≤ n2
    · rw [if_pos h2, if_pos h2]
    · rw [if_neg h2, if_neg h2]
  · rw [if_neg h1, if_neg h1]
    by_cases h2 : n0 ≤ n2
    · rw [if_pos h2, if_pos h2]
    · rw [if_neg h2, if_neg h2]
