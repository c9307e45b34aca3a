/-! ===== what holds at each table ===== -/
def sup3 (f : Nat → Nat) : Nat → Nat
  | 0 => 0
  | i + 1 => if f i ≤ sup3 f i then sup3 f i else f i
theorem sup3_w3 (P : Nat → Bool) (a b la ra : Int32) : sup3 (fun q => cn P a b la ra (i3 q)) 3 = w3 P a b la ra := by
  have h0 : sup3 (fun q => cn P a b la ra (i3 q)) 3 = (let x := cn P a b la ra 0; let y := cn P a b la ra 1; let z := cn P a b la ra 2; let s1 := if x ≤ 0 then 0 else x; let s2 := if y ≤ s1 then s1 else y; if z ≤ s2 then s2 else z) := rfl
  rw [h0]
  unfold w3 mx
  generalize cn P a b la ra 0 = x
  generalize cn P a b la ra 1 = y
  generalize cn P a b la ra 2 = z
  show (if z ≤ (if y ≤ (if x ≤ 0 then 0 else x) then (if x ≤ 0 then 0 else x) else y) then (if y ≤ (if x ≤ 0 then 0 else x) then (if x ≤ 0 then 0 else x) else y) else z) = _
  have hx : (if x ≤ 0 then 0 else x) = x := by split <;> omega
  rw [hx]
  by_cases h1 : y ≤ x <;> by_cases h2 : x ≤ y <;> simp only [h1, h2, if_true, if_false] <;> (split <;> split <;> omega)
theorem sup3_le (P : Nat → Bool) (a b la ra : Int32) : ∀ i, sup3 (fun q => cn P a b la ra (i3 q)) i ≤ 78 := by
  intro i
  induction i with
  | zero => exact Nat.zero_le _
  | succ i ih =>
    show (if _ then _ else _) ≤ 78
    split
    · exact ih
    · exact cn_le _ _ _ _ _ _
theorem most_ok {v : OBv} {z : RS} {c m : Nat} {a b : Int32} (R : RelO v z) (hz : ZC z c m) (hw : WS c a b) : ∃ v', f_L_most v a b = some (i3 (w3 (PR z.2.1 c m) a b (z.2.1 2) (z.2.1 3)), v') ∧ RelO v' z := by
  obtain ⟨e, h1, h2, h3⟩ := itl_invN (f := f_L_most_B5 a b) (fun i (q : Int32 × Int32 × OBv) => q.1 = i3 (sup3 (fun q => cn (PR z.2.1 c m) a b (z.2.1 2) (z.2.1 3) (i3 q)) i) ∧ q.2.1 = i3 i ∧ RelO q.2.2 z) (fun (e : Int32 × OBv) => e.1 = i3 (sup3 (fun q => cn (PR z.2.1 c m) a b (z.2.1 2) (z.2.1 3) (i3 q)) 3) ∧ RelO e.2 z) 3 (by
    rintro i ⟨x, k, v⟩ hi ⟨e1, e2, R⟩
    have e1 : x = i3 (sup3 (fun q => cn (PR z.2.1 c m) a b (z.2.1 2) (z.2.1 3) (i3 q)) i) := e1
    have e2 : k = i3 i := e2
    subst e1
    subst e2
    have R : RelO v z := R
    have hn : ¬ (3 : Int32) ≤ i3 i := by show ¬ i3 3 ≤ i3 i; rw [i3_le (by decide) (by omega)]; omega
    obtain ⟨v', E, R'⟩ := use (call_12 R a b (i3 i)) (qu_leaves hz hw hi)
    have l1 := sup3_le (PR z.2.1 c m) a b (z.2.1 2) (z.2.1 3) i
    have l2 := cn_le (PR z.2.1 c m) a b (z.2.1 2) (z.2.1 3) (i3 i)
    have hS : sup3 (fun q => cn (PR z.2.1 c m) a b (z.2.1 2) (z.2.1 3) (i3 q)) (i + 1) = (if cn (PR z.2.1 c m) a b (z.2.1 2) (z.2.1 3) (i3 i) ≤ sup3 (fun q => cn (PR z.2.1 c m) a b (z.2.1 2) (z.2.1 3) (i3 q)) i then sup3 (fun q => cn (PR z.2.1 c m) a b (z.2.1 2) (z.2.1 3) (i3 q)) i else cn (PR z.2.1 c m) a b (z.2.1 2) (z.2.1 3) (i3 i)) := rfl
    rw [hS]
    unfold f_L_most_B5 f_L_most_B5_b35
    show ∃ z', (if (3 : Int32) ≤ i3 i then _ else (f_O_call v (12 : Int32) a b (i3 i)).bind _) = _ ∧ _
    rw [if_neg hn, E, Option.bind_some]
    generalize sup3 (fun q => cn (PR z.2.1 c m) a b (z.2.1 2) (z.2.1 3) (i3 q)) i = s at l1 ⊢
    generalize cn (PR z.2.1 c m) a b (z.2.1 2) (z.2.1 3) (i3 i) = t at l2 ⊢
    have hiff : (i3 t ≤ i3 s) ↔ t ≤ s := i3_le (by omega) (by omega)
    by_cases h : t ≤ s
    · refine ⟨_, if_pos (hiff.mpr h), ?_, i3_add i 1, R'⟩
      rw [if_pos h]
    · refine ⟨_, if_neg (fun z => h (hiff.mp z)), ?_, i3_add i 1, R'⟩
      rw [if_neg h]) (by
    rintro ⟨x, k, v⟩ ⟨e1, e2, R⟩
    have e2 : k = i3 3 := e2
    subst e2
    refine ⟨(x, v), ?_, e1, R⟩
    unfold f_L_most_B5
    exact if_pos (by decide : (3 : Int32) ≤ i3 3)) 4 0 ((0 : Int32), (0 : Int32), v) (by decide) ⟨rfl, rfl, R⟩ (by decide)
  rw [sup3_w3] at h2
  refine ⟨e.2, ?_, h3⟩
  unfold f_L_most
  rw [h1, Option.bind_some, h2]
/-! what is told of the coins, case by case -/
def tv (p : Bool) (k d : Nat) : Int32 := if p = true then (if k / 6 = d then (1 : Int32) <<< (i3 (k / 3 % 2) &&& 31) else 4) else 0
theorem tv_m3 (P : Nat → Bool) (k d : Nat) (x y w : Bool) : m3 x y w ||| tv (P k) k d = m3 (x || c1 P d k) (y || c2 P d k) (w || c4 P d k) := by
  unfold tv c1 c2 c4
  cases P k
  · rw [if_neg (by decide), m3_0]
    simp
  · rw [if_pos rfl]
    by_cases h : k / 6 = d
    · rw [if_pos h, decide_eq_true h]
      have h2 : k / 3 % 2 = 0 ∨ k / 3 % 2 = 1 := by omega
      rcases h2 with h2 | h2
      · rw [h2, show (1 : Int32) <<< (i3 0 &&& 31) = 1 from by decide, m3_1]
        simp
      · rw [h2, show (1 : Int32) <<< (i3 1 &&& 31) = 2 from by decide, m3_2]
        simp
    · rw [if_neg h, decide_eq_false h, m3_4]
      simp
theorem h126 {c k : Nat} (hc : c ≤ 12) (hk : k < 78) (p : Bool) (v : OBv) (x1 x3 x4 x5 x6 x7 : Int32) (w0 : Fn) : ∃ w', itl (f_L_holds_B126 v x1 (i3 c) x3 x4 x5 x6 x7 true (i3 k) (b2i p)) FU ((0 : Int32), w0) = some w' ∧ ∀ d, d < c → w' d = w0 d ||| tv p k d := by
  refine itl_inv (fun i (q : Int32 × Fn) => q.1 = i3 i ∧ ∀ d, d < c → q.2 d = if d < i then w0 d ||| tv p k d else w0 d) (fun (e : Fn) => ∀ d, d < c → e d = w0 d ||| tv p k d) c ?_ ?_ ((0 : Int32), w0) ⟨rfl, fun d _ => (if_neg (Nat.not_lt_zero d)).symm⟩ (by unfold FU; omega)
  · rintro i ⟨j, w⟩ hi ⟨e1, e2⟩
    have e1 : j = i3 i := e1
    subst e1
    have e2 : ∀ d, d < c → w d = if d < i then w0 d ||| tv p k d else w0 d := e2
    have hn : ¬ i3 c ≤ i3 i := by rw [i3_le (by omega) (by omega)]; omega
    have d6 : i3 k / (6 : Int32) = i3 (k / 6) := i3_div (by omega) (by decide : 6 < 2 ^ 31)
    have d3 : i3 k / (3 : Int32) = i3 (k / 3) := i3_div (by omega) (by decide : 3 < 2 ^ 31)
    have m2 : i3 (k / 3) - i3 (k / 3) / (2 : Int32) * (2 : Int32) = i3 (k / 3 % 2) := i3_mod (by omega) (by decide : 2 < 2 ^ 31)
    have q6 : (i3 (k / 6) = i3 i) ↔ k / 6 = i := i3_eq (by omega) (by omega)
    have hin : ¬ (i3 i < 0 ∨ 12 ≤ (i3 i).toNatClampNeg) := i3_in (by omega) (by decide)
    have hnat : (i3 i).toNatClampNeg = i := i3_nat (by omega)
    have hw : w i = w0 i := (e2 i hi).trans (if_neg (Nat.lt_irrefl i))
    have E : f_L_holds_B126 v x1 (i3 c) x3 x4 x5 x6 x7 true (i3 k) (b2i p) (i3 i, w) = some (.inl (i3 (i + 1), upd w i (w i ||| tv p k i))) := by
      unfold f_L_holds_B126 f_L_holds_B126_b169
      show (if i3 c ≤ i3 i then _ else if i3 i < 0 ∨ 12 ≤ (i3 i).toNatClampNeg then none else if b2i p = 0 then (if i3 i < 0 ∨ 12 ≤ (i3 i).toNatClampNeg then none else some (Sum.inl (i3 i + (1 : Int32), upd w (i3 i).toNatClampNeg (w (i3 i).toNatClampNeg ||| (0 : Int32))))) else if i3 k / (6 : Int32) = i3 i then (if i3 i < 0 ∨ 12 ≤ (i3 i).toNatClampNeg then none else some (Sum.inl (i3 i + (1 : Int32), upd w (i3 i).toNatClampNeg (w (i3 i).toNatClampNeg ||| ((1 : Int32) <<< ((i3 k / (3 : Int32) - i3 k / (3 : Int32) / (2 : Int32) * (2 : Int32)) &&& 31)))))) else (if i3 i < 0 ∨ 12 ≤ (i3 i).toNatClampNeg then none else some (Sum.inl (i3 i + (1 : Int32), upd w (i3 i).toNatClampNeg (w (i3 i).toNatClampNeg ||| (4 : Int32)))))) = _
      rw [if_neg hn, if_neg hin, if_neg hin, if_neg hin, if_neg hin, hnat, d6, d3, m2, show i3 i + (1 : Int32) = i3 (i + 1) from i3_add i 1]
      unfold tv
      cases p
      · rw [if_pos bfF, if_neg (by decide)]
      · rw [if_neg bfT, if_pos rfl]
        by_cases h : k / 6 = i
        · rw [if_pos (q6.mpr h), if_pos h]
        · rw [if_neg (fun z => h (q6.mp z)), if_neg h]
    refine ⟨_, E, rfl, fun d hd => ?_⟩
    show upd w i (w i ||| tv p k i) d = _
    by_cases h : d = i
    · subst h
      rw [upd_at, hw, if_pos (Nat.lt_succ_self _)]
    · rw [upd_ne h, e2 d hd]
      by_cases h2 : d < i
      · rw [if_pos h2, if_pos (by omega)]
      · rw [if_neg h2, if_neg (by omega)]
  · rintro ⟨j, w⟩ ⟨e1, e2⟩
    have e1 : j = i3 c := e1
    subst e1
    refine ⟨w, ?_, fun d hd => (e2 d hd).trans (if_pos hd)⟩
    unfold f_L_holds_B126
    exact if_pos ((i3_le (by omega) (by omega)).mpr (Nat.le_refl _))
theorem pans_or (P : Nat → Bool) (k : Nat) (x y w : Bool) : m3 x y w ||| (b2i (P k) <<< (i3 (k % 3) &&& 31)) = m3 (x || pq P 0 k) (y || pq P 1 k) (w || pq P 2 k) := by
  unfold pq
  cases P k
  · have h3 : k % 3 < 3 := Nat.mod_lt _ (by decide)
    have h : ∀ t : Fin 3, b2i false <<< (i3 t.val &&& 31) = 0 := by decide
    rw [h ⟨k % 3, h3⟩, m3_0]
    simp
  · have h3 : k % 3 = 0 ∨ k % 3 = 1 ∨ k % 3 = 2 := by omega
    rcases h3 with h | h | h
    · rw [h, show b2i true <<< (i3 0 &&& 31) = 1 from by decide, m3_1]
      simp
    · rw [h, show b2i true <<< (i3 1 &&& 31) = 2 from by decide, m3_2]
      simp
    · rw [h, show b2i true <<< (i3 2 &&& 31) = 4 from by decide, m3_4]
      simp
/-- what has been told behind k cases -/
def Told (P : Nat → Bool) (c k : Nat) (w : Fn) : Prop := ∀ d, d < c → w d = m3 (ex (c1 P d) k) (ex (c2 P d) k) (ex (c4 P d) k)
theorem h82 {v : OBv} {z : RS} {c m : Nat} (R : RelO v z) (hz : ZC z c m) (x1 x4 x5 : Int32) : ∃ v' w', itl (f_L_holds_B82 x1 (i3 c) (i3 (nC c)) x4 x5 true) 76 ((0 : Int32), (0 : Int32), (0 : Int32), v, fun _ => (0 : Int32)) = some (i3 (nP (PR z.2.1 c m)), m3 (ex (pq (PR z.2.1 c m) 0) 78) (ex (pq (PR z.2.1 c m) 1) 78) (ex (pq (PR z.2.1 c m) 2) 78), v', w') ∧ RelO v' z ∧ Told (PR z.2.1 c m) c 78 w' := by
  have hc := hz.c
  have h75 := nC_lt (show c < 13 by omega)
  obtain ⟨e, h1, h2, h3, h4, h5⟩ := itl_invN (f := f_L_holds_B82 x1 (i3 c) (i3 (nC c)) x4 x5 true) (fun k (q : Int32 × Int32 × Int32 × OBv × Fn) => q.1 = i3 (sm (fun k => (PR z.2.1 c m k).toNat) k) ∧ q.2.1 = m3 (ex (pq (PR z.2.1 c m) 0) k) (ex (pq (PR z.2.1 c m) 1) k) (ex (pq (PR z.2.1 c m) 2) k) ∧ q.2.2.1 = i3 k ∧ RelO q.2.2.2.1 z ∧ Told (PR z.2.1 c m) c k q.2.2.2.2) (fun (e : Int32 × Int32 × OBv × Fn) => e.1 = i3 (sm (fun k => (PR z.2.1 c m k).toNat) (nC c)) ∧ e.2.1 = m3 (ex (pq (PR z.2.1 c m) 0) (nC c)) (ex (pq (PR z.2.1 c m) 1) (nC c)) (ex (pq (PR z.2.1 c m) 2) (nC c)) ∧ RelO e.2.2.1 z ∧ Told (PR z.2.1 c m) c (nC c) e.2.2.2) (nC c) (by
    rintro k ⟨n, p, k', v, w⟩ hk ⟨e1, e2, e3, R, hT⟩
    have e1 : n = i3 (sm (fun k => (PR z.2.1 c m k).toNat) k) := e1
    have e2 : p = m3 (ex (pq (PR z.2.1 c m) 0) k) (ex (pq (PR z.2.1 c m) 1) k) (ex (pq (PR z.2.1 c m) 2) k) := e2
    have e3 : k' = i3 k := e3
    subst e1
    subst e2
    subst e3
    have R : RelO v z := R
    have hT : Told (PR z.2.1 c m) c k w := hT
    have hn : ¬ i3 (nC c) ≤ i3 k := by rw [i3_le (by omega) (by omega)]; omega
    have mm3 : i3 k - i3 k / (3 : Int32) * (3 : Int32) = i3 (k % 3) := i3_mod (by omega) (by decide : 3 < 2 ^ 31)
    obtain ⟨v1, E, R1⟩ := use (call_4 R (i3 k) 0 0) (qu_is hz hk 0 0)
    have hsum : i3 (sm (fun k => (PR z.2.1 c m k).toNat) k) + b2i (PR z.2.1 c m k) = i3 (sm (fun k => (PR z.2.1 c m k).toNat) (k + 1)) := by
      rw [b2i_val, i3_add]
      rfl
    obtain ⟨w', F, hF⟩ := h126 (c := c) hc.2.1 (show k < 78 by omega) (PR z.2.1 c m k) v1 x1 (i3 (nC c)) x4 x5 (i3 (sm (fun k => (PR z.2.1 c m k).toNat) (k + 1))) (m3 (ex (pq (PR z.2.1 c m) 0) k || pq (PR z.2.1 c m) 0 k) (ex (pq (PR z.2.1 c m) 1) k || pq (PR z.2.1 c m) 1 k) (ex (pq (PR z.2.1 c m) 2) k || pq (PR z.2.1 c m) 2 k)) w
    refine ⟨(i3 (sm (fun k => (PR z.2.1 c m k).toNat) (k + 1)), m3 (ex (pq (PR z.2.1 c m) 0) k || pq (PR z.2.1 c m) 0 k) (ex (pq (PR z.2.1 c m) 1) k || pq (PR z.2.1 c m) 1 k) (ex (pq (PR z.2.1 c m) 2) k || pq (PR z.2.1 c m) 2 k), i3 k + (1 : Int32), v1, w'), ?_, rfl, rfl, i3_add k 1, R1, fun d hd => ?_⟩
    · unfold f_L_holds_B82
      show (if i3 (nC c) ≤ i3 k then _ else if b2i true = 0 then _ else (f_O_call v (4 : Int32) (i3 k) (0 : Int32) (0 : Int32)).bind _) = _
      rw [if_neg hn, if_neg bfT, E, Option.bind_some]
      show ((itl (f_L_holds_B126 v1 x1 (i3 c) (i3 (nC c)) x4 x5 (i3 (sm (fun k => (PR z.2.1 c m k).toNat) k) + b2i (PR z.2.1 c m k)) (m3 _ _ _ ||| (b2i (PR z.2.1 c m k) <<< ((i3 k - i3 k / (3 : Int32) * (3 : Int32)) &&& 31))) true (i3 k) (b2i (PR z.2.1 c m k))) FU ((0 : Int32), w)).bind (fun q1312 => some (.inl ((i3 (sm (fun k => (PR z.2.1 c m k).toNat) k) + b2i (PR z.2.1 c m k)), (m3 _ _ _ ||| (b2i (PR z.2.1 c m k) <<< ((i3 k - i3 k / (3 : Int32) * (3 : Int32)) &&& 31))), (i3 k + (1 : Int32)), v1, q1312))) : Option ((Int32 × Int32 × Int32 × OBv × Fn) ⊕ ((Int32 × Int32 × OBv × Fn)))) = _
      rw [hsum, mm3, pans_or, F, Option.bind_some]
    · show w' d = _
      rw [hF d hd, hT d hd, tv_m3]
      rfl) (by
    rintro ⟨n, p, k', v, w⟩ ⟨e1, e2, e3, R, hT⟩
    have e3 : k' = i3 (nC c) := e3
    subst e3
    refine ⟨(n, p, v, w), ?_, e1, e2, R, hT⟩
    unfold f_L_holds_B82
    exact if_pos ((i3_le (by omega) (by omega)).mpr (Nat.le_refl _))) 76 0 ((0 : Int32), (0 : Int32), (0 : Int32), v, fun _ => (0 : Int32)) (Nat.zero_le _) ⟨rfl, (show (0 : Int32) = m3 false false false by decide), rfl, R, fun d _ => (show (0 : Int32) = m3 false false false by decide)⟩ (by omega)
  have hcut : ∀ p : Nat → Bool, (∀ k, nC c ≤ k → p k = false) → ex p (nC c) = ex p 78 := fun p hp => ex_cut (by omega) hp
  have hout : ∀ k, nC c ≤ k → PR z.2.1 c m k = false := fun k hk => PR_out (by omega)
  have hs : sm (fun k => (PR z.2.1 c m k).toNat) (nC c) = nP (PR z.2.1 c m) := by
    unfold nP
    rw [PR_sm z.2.1 (show c < 13 by omega) m]
    exact sm_cong (fun k hk => by rw [PR_fit hk])
  refine ⟨e.2.2.1, e.2.2.2, ?_, h4, fun d hd => ?_⟩
  · rw [h1]
    have a0 := hcut (pq (PR z.2.1 c m) 0) (fun k hk => by unfold pq; rw [hout k hk]; rfl)
    have a1 := hcut (pq (PR z.2.1 c m) 1) (fun k hk => by unfold pq; rw [hout k hk]; rfl)
    have a2 := hcut (pq (PR z.2.1 c m) 2) (fun k hk => by unfold pq; rw [hout k hk]; rfl)
    rw [← a0, ← a1, ← a2, ← hs, ← h2, ← h3]
  · have a0 := hcut (c1 (PR z.2.1 c m) d) (fun k hk => by unfold c1; rw [hout k hk]; rfl)
    have a1 := hcut (c2 (PR z.2.1 c m) d) (fun k hk => by unfold c2; rw [hout k hk]; rfl)
    have a2 := hcut (c4 (PR z.2.1 c m) d) (fun k hk => by unfold c4; rw [hout k hk]; rfl)
    rw [← a0, ← a1, ← a2]
    exact h5 d hd
