/-! ===== keeping, sorting ===== -/
def ocj (a b la ra : Int32) (j : Nat) (x y : Int32) : Int32 := cmp3 (la * (((10 : Int32) * i3 (pc a) + x) + b2i (decide (j / 2 = 1)))) (ra * (((10 : Int32) * i3 (pc b) + y) + b2i (decide (j / 2 = 2))))
theorem ocj_le (a b la ra : Int32) (j : Nat) (x y : Int32) : ocj a b la ra j x y = 0 ∨ ocj a b la ra j x y = 1 ∨ ocj a b la ra j x y = 2 := cmp3_le _ _
theorem oc_kOf (a b la ra : Int32) {j : Nat} (hj : j < 6) (q : Nat) : oc a b la ra (kOf j q) = ocj a b la ra j (if bt a q = true then mo j else 0) (if bt b q = true then mo j else 0) := by
  have e1 : kOf j q % 3 = j / 2 := by unfold kOf; omega
  have e2 : kOf j q / 3 = 2 * q + j % 2 := by unfold kOf; omega
  have e3 : (2 * q + j % 2) / 2 = q := by omega
  have e4 : mo (2 * q + j % 2) = mo j := by
    unfold mo
    rw [show (2 * q + j % 2) % 2 = j % 2 by omega]
  unfold oc ocj wh
  rw [e1, e2, e3, e4]
theorem scj_eq (a b la ra lm rm : Int32) {j : Nat} (hj : j < 6) : f_X1_outcome (scOf a b la ra) (i3 j / (2 : Int32)) lm rm = some (ocj a b la ra j lm rm) := by
  rw [show i3 j / (2 : Int32) = i3 (j / 2) from i3_div (by omega) (by decide : 2 < 2 ^ 31)]
  exact scout_eq a b la ra lm rm (by omega)
def kept (a b la ra o : Int32) (j : Nat) : Int32 :=
  if ocj a b la ra j 0 0 = o then (if ocj a b la ra j 0 (mo j) = o then (if ocj a b la ra j (mo j) 0 = o then (0 : Int32) ||| a else 0) ||| b else (if ocj a b la ra j (mo j) 0 = o then (0 : Int32) ||| a else 0)) ||| ((a ||| b) ^^^ (-1 : Int32)) else (if ocj a b la ra j 0 (mo j) = o then (if ocj a b la ra j (mo j) 0 = o then (0 : Int32) ||| a else 0) ||| b else (if ocj a b la ra j (mo j) 0 = o then (0 : Int32) ||| a else 0))
theorem kept_bt (a b la ra o : Int32) (j : Nat) {q : Nat} (hq : q < 32) (hd : ¬ (bt a q = true ∧ bt b q = true)) : bt (kept a b la ra o j) q = decide (ocj a b la ra j (if bt a q = true then mo j else 0) (if bt b q = true then mo j else 0) = o) := by
  have hs : ∀ b : Bool, b = true ∨ b = false := fun b => by cases b <;> simp
  unfold kept
  rcases hs (bt a q) with ha | ha <;> rcases hs (bt b q) with hb | hb
  · exact absurd ⟨ha, hb⟩ hd
  all_goals
    by_cases c1 : ocj a b la ra j 0 0 = o <;> by_cases c2 : ocj a b la ra j 0 (mo j) = o <;> by_cases c3 : ocj a b la ra j (mo j) 0 = o <;> simp only [c1, c2, c3, bt_or, bt_not hq, bt_zero, ha, hb, if_true, if_false, Bool.or_true, Bool.true_or, Bool.or_false, Bool.false_or, Bool.not_true, Bool.not_false, decide_true, decide_false, reduceCtorEq]
theorem ifi (F v : Fn) (i : Nat) : (fun j => if j < i then F j else v j) i = v i := if_neg (Nat.lt_irrefl i)
theorem k102 {w : SCv} {v : Fn} (o x5 : Int32) {i : Nat} (hi : i < 6) : f_X3_keep_B2_b102 v w o (i3 i) x5 = some (.inl (i3 (i + 1), upd v i (v i &&& x5))) := by
  unfold f_X3_keep_B2_b102
  rw [if_neg (i3_in hi (by decide)), if_neg (i3_in hi (by decide)), i3_nat (by omega)]
  exact congrArg (fun z => some (Sum.inl (z, _))) (i3_add i 1)
theorem k73 {w : SCv} {v : Fn} (o x5 c : Int32) {i : Nat} (hi : i < 6) (hc : f_X1_outcome w (i3 i / (2 : Int32)) (0 : Int32) (0 : Int32) = some c) : f_X3_keep_B2_b73 v w o (i3 i) x5 = some (.inl (i3 (i + 1), upd v i (v i &&& (if c = o then x5 ||| ((w.1 ||| w.2.1) ^^^ (-1 : Int32)) else x5)))) := by
  unfold f_X3_keep_B2_b73
  rw [hc]
  show (if c = o then _ else _) = _
  by_cases h : c = o
  · rw [if_pos h, if_pos h]; exact k102 o _ hi
  · rw [if_neg h, if_neg h]; exact k102 o _ hi
theorem k50 {w : SCv} {v : Fn} (o x4 x5 c c2 : Int32) {i : Nat} (hi : i < 6) (hc : f_X1_outcome w (i3 i / (2 : Int32)) (0 : Int32) (0 : Int32) = some c) (hc2 : f_X1_outcome w (i3 i / (2 : Int32)) (0 : Int32) x4 = some c2) : f_X3_keep_B2_b50 v w o (i3 i) x4 x5 = some (.inl (i3 (i + 1), upd v i (v i &&& (if c = o then (if c2 = o then x5 ||| w.2.1 else x5) ||| ((w.1 ||| w.2.1) ^^^ (-1 : Int32)) else (if c2 = o then x5 ||| w.2.1 else x5))))) := by
  unfold f_X3_keep_B2_b50
  rw [hc2]
  show (if c2 = o then _ else _) = _
  by_cases h : c2 = o
  · rw [if_pos h, if_pos h]; exact k73 o _ c hi hc
  · rw [if_neg h, if_neg h]; exact k73 o _ c hi hc
theorem k22 {w : SCv} {v : Fn} (o x4 c c2 c3 : Int32) {i : Nat} (hi : i < 6) (hc : f_X1_outcome w (i3 i / (2 : Int32)) (0 : Int32) (0 : Int32) = some c) (hc2 : f_X1_outcome w (i3 i / (2 : Int32)) (0 : Int32) x4 = some c2) (hc3 : f_X1_outcome w (i3 i / (2 : Int32)) x4 (0 : Int32) = some c3) : f_X3_keep_B2_b22 v w o (i3 i) x4 = some (.inl (i3 (i + 1), upd v i (v i &&& (if c = o then (if c2 = o then (if c3 = o then (0 : Int32) ||| w.1 else 0) ||| w.2.1 else (if c3 = o then (0 : Int32) ||| w.1 else 0)) ||| ((w.1 ||| w.2.1) ^^^ (-1 : Int32)) else (if c2 = o then (if c3 = o then (0 : Int32) ||| w.1 else 0) ||| w.2.1 else (if c3 = o then (0 : Int32) ||| w.1 else 0)))))) := by
  unfold f_X3_keep_B2_b22
  rw [hc3]
  show (if c3 = o then _ else _) = _
  by_cases h : c3 = o
  · rw [if_pos h, if_pos h]; exact k50 o x4 _ c c2 hi hc hc2
  · rw [if_neg h, if_neg h]; exact k50 o x4 _ c c2 hi hc hc2
theorem par_eq {i : Nat} (hi : i < 6) : ((i3 i - i3 i / (2 : Int32) * (2 : Int32)) = 0) ↔ i % 2 = 0 := by
  rw [show i3 i - i3 i / (2 : Int32) * (2 : Int32) = i3 (i % 2) from i3_mod (by omega) (by decide : 2 < 2 ^ 31)]
  exact i3_eq (by omega) (by decide : 0 < 2 ^ 31)
theorem n6 {i : Nat} (hi : i < 6) : ¬ (6 : Int32) ≤ i3 i := fun h => absurd ((i3_le (by decide : 6 < 2 ^ 31) (by omega)).mp h) (by omega)
theorem keep_step {w : SCv} {v : Fn} (a b la ra o : Int32) {i : Nat} (hi : i < 6) (h1 : w.1 = a) (h2 : w.2.1 = b) (hw : ∀ lm rm, f_X1_outcome w (i3 i / (2 : Int32)) lm rm = some (ocj a b la ra i lm rm)) : f_X3_keep_B2 w o (i3 i, v) = some (.inl (i3 (i + 1), upd v i (v i &&& kept a b la ra o i))) := by
  subst h1
  subst h2
  unfold f_X3_keep_B2
  rw [if_neg (n6 hi)]
  show (if i3 i - i3 i / (2 : Int32) * (2 : Int32) = 0 then f_X3_keep_B2_b22 v w o (i3 i) (-1) else f_X3_keep_B2_b22 v w o (i3 i) 1) = _
  unfold kept mo
  by_cases c0 : i % 2 = 0
  · rw [if_pos ((par_eq hi).mpr c0), if_pos c0, k22 o (-1) _ _ _ hi (hw 0 0) (hw 0 (-1)) (hw (-1) 0)]
  · rw [if_neg (fun z => c0 ((par_eq hi).mp z)), if_neg c0, k22 o 1 _ _ _ hi (hw 0 0) (hw 0 1) (hw 1 0)]
theorem keep_end {w : SCv} {v : Fn} (o : Int32) : f_X3_keep_B2 w o (i3 6, v) = some (.inr v) := by
  unfold f_X3_keep_B2
  exact if_pos (by decide : (6 : Int32) ≤ i3 6)
theorem keep_run {w : SCv} {su : Fn} (a b la ra o : Int32) (h1 : w.1 = a) (h2 : w.2.1 = b) (hw : ∀ i, i < 6 → ∀ lm rm, f_X1_outcome w (i3 i / (2 : Int32)) lm rm = some (ocj a b la ra i lm rm)) : f_X3_keep su w o = some (fun j => if j < 6 then su j &&& kept a b la ra o j else su j) := by
  unfold f_X3_keep
  have hl := itl_for (f := f_X3_keep_B2 w o) (fun i => (i3 i, fun j => if j < i then su j &&& kept a b la ra o j else su j)) 6 (e := fun j => if j < 6 then su j &&& kept a b la ra o j else su j) (by decide) (fun i hi => by
    have hu := upd_if (fun j => su j &&& kept a b la ra o j) su i
    have hs := keep_step (v := fun j => if j < i then su j &&& kept a b la ra o j else su j) a b la ra o hi h1 h2 (hw i hi)
    rw [if_neg (Nat.lt_irrefl i)] at hs
    refine hs.trans ?_
    exact congrArg (fun z => some (Sum.inl (i3 (i + 1), z))) hu) (keep_end o)
  rw [if0] at hl
  have hl' : itl (f_X3_keep_B2 w o) FU ((0 : Int32), su) = _ := hl
  rw [hl']
  rfl
theorem keep_eq {su : Fn} {P : Nat → Bool} (h : SuP su P) (a b la ra o : Int32) (hd : ∀ q, ¬ (bt a q = true ∧ bt b q = true)) : ∃ su', f_X3_keep su (scOf a b la ra) o = some su' ∧ SuP su' (fun k => P k && decide (oc a b la ra k = o)) := by
  refine ⟨fun j => if j < 6 then su j &&& kept a b la ra o j else su j, keep_run a b la ra o rfl rfl (fun i hi lm rm => scj_eq a b la ra lm rm hi), fun j hj => ?_⟩
  show Sm (if j < 6 then su j &&& kept a b la ra o j else su j) ∧ ∀ q, q < 13 → bt (if j < 6 then su j &&& kept a b la ra o j else su j) q = (P (kOf j q) && decide (oc a b la ra (kOf j q) = o))
  rw [if_pos hj]
  refine ⟨fun q hq => ?_, fun q hq => ?_⟩
  · rw [bt_and, (h j hj).1 q hq]; rfl
  · rw [bt_and, (h j hj).2 q hq, kept_bt a b la ra o j (by omega) (hd q), oc_kOf a b la ra hj]
theorem sm_add (f g : Nat → Nat) : ∀ n, sm (fun i => f i + g i) n = sm f n + sm g n := by
  intro n
  induction n with
  | zero => rfl
  | succ n ih =>
    show sm (fun i => f i + g i) n + (f n + g n) = (sm f n + f n) + (sm g n + g n)
    omega
theorem sm_if (c : Prop) [Decidable c] (f : Nat → Nat) : ∀ n, (if c then sm f n else 0) = sm (fun i => if c then f i else 0) n := by
  intro n
  induction n with
  | zero => by_cases h : c <;> simp [h, sm]
  | succ n ih =>
    show _ = sm (fun i => if c then f i else 0) n + (if c then f n else 0)
    rw [← ih]
    by_cases h : c <;> simp [h, sm]
def tq (su : Fn) (a b la ra q : Int32) (j : Nat) : Nat := ((if ocj a b la ra j (mo j) 0 = q then pc (su j &&& a) else 0) + (if ocj a b la ra j 0 (mo j) = q then pc (su j &&& b) else 0)) + (if ocj a b la ra j 0 0 = q then pc (su j &&& ((a ||| b) ^^^ (-1 : Int32))) else 0)
theorem add_eq (x y z n : Nat) {o : Int32} (ho : o = 0 ∨ o = 1 ∨ o = 2) : f_X5_add (i3 x, i3 y, i3 z) o (i3 n) = some (i3 (x + if o = 0 then n else 0), i3 (y + if o = 1 then n else 0), i3 (z + if o = 2 then n else 0)) := by
  unfold f_X5_add
  rcases ho with h | h | h
  · subst h
    rw [if_pos rfl, if_pos rfl, if_neg (by decide), if_neg (by decide), i3_add]
    rfl
  · subst h
    rw [if_neg (by decide), if_pos rfl, if_neg (by decide), if_pos rfl, if_neg (by decide), i3_add]
    rfl
  · subst h
    rw [if_neg (by decide), if_neg (by decide), if_neg (by decide), if_neg (by decide), if_pos rfl, i3_add]
    rfl
theorem Sm.and {x : Int32} (h : Sm x) (y : Int32) : Sm (x &&& y) := fun j hj => by rw [bt_and, h j hj]; rfl
theorem tq_eq {su : Fn} {P : Nat → Bool} (h : SuP su P) (a b la ra q : Int32) (hd : ∀ i, ¬ (bt a i = true ∧ bt b i = true)) {j : Nat} (hj : j < 6) : tq su a b la ra q j = sm (fun i => (P (kOf j i) && decide (oc a b la ra (kOf j i) = q)).toNat) 13 := by
  unfold tq pc
  rw [sm_if, sm_if, sm_if, ← sm_add, ← sm_add]
  refine sm_cong (fun i hi => ?_)
  show ((if _ then (bt (su j &&& a) i).toNat else 0) + (if _ then (bt (su j &&& b) i).toNat else 0)) + (if _ then (bt (su j &&& ((a ||| b) ^^^ (-1 : Int32))) i).toNat else 0) = _
  rw [oc_kOf a b la ra hj, ← (h j hj).2 i hi]
  simp only [bt_and, bt_not (show i < 32 by omega), bt_or]
  have hs : ∀ b : Bool, b = true ∨ b = false := fun b => by cases b <;> simp
  rcases hs (bt (su j) i) with h1 | h1
  · rcases hs (bt a i) with h2 | h2 <;> rcases hs (bt b i) with h3 | h3
    · exact absurd ⟨h2, h3⟩ (hd i)
    all_goals
      by_cases c1 : ocj a b la ra j 0 0 = q <;> by_cases c2 : ocj a b la ra j 0 (mo j) = q <;> by_cases c3 : ocj a b la ra j (mo j) 0 = q <;> simp [h1, h2, h3, c1, c2, c3]
  · simp [h1]
/-- how many of the cases have an outcome -/
def cn (P : Nat → Bool) (a b la ra q : Int32) : Nat := sm (fun k => (P k && decide (oc a b la ra k = q)).toNat) 78
theorem s26 {su : Fn} {w : SCv} (x y z : Nat) (m c1 c2 c3 : Int32) {i : Nat} (hi : i < 6) (hq : Sm (su i)) (hc1 : f_X1_outcome w (i3 i / (2 : Int32)) m (0 : Int32) = some c1) (hc2 : f_X1_outcome w (i3 i / (2 : Int32)) (0 : Int32) m = some c2) (hc3 : f_X1_outcome w (i3 i / (2 : Int32)) (0 : Int32) (0 : Int32) = some c3) (l1 : c1 = 0 ∨ c1 = 1 ∨ c1 = 2) (l2 : c2 = 0 ∨ c2 = 1 ∨ c2 = 2) (l3 : c3 = 0 ∨ c3 = 1 ∨ c3 = 2) : f_X3_sort_B6_b26 su w (i3 x, i3 y, i3 z) (i3 i) m =
    some (.inl (i3 (i + 1), (i3 (x + (if c1 = 0 then pc (su i &&& w.1) else 0) + (if c2 = 0 then pc (su i &&& w.2.1) else 0) + (if c3 = 0 then pc (su i &&& ((w.1 ||| w.2.1) ^^^ (-1 : Int32))) else 0)), i3 (y + (if c1 = 1 then pc (su i &&& w.1) else 0) + (if c2 = 1 then pc (su i &&& w.2.1) else 0) + (if c3 = 1 then pc (su i &&& ((w.1 ||| w.2.1) ^^^ (-1 : Int32))) else 0)), i3 (z + (if c1 = 2 then pc (su i &&& w.1) else 0) + (if c2 = 2 then pc (su i &&& w.2.1) else 0) + (if c3 = 2 then pc (su i &&& ((w.1 ||| w.2.1) ^^^ (-1 : Int32))) else 0))))) := by
  unfold f_X3_sort_B6_b26
  rw [if_neg (i3_in hi (by decide)), if_neg (i3_in hi (by decide)), if_neg (i3_in hi (by decide)), i3_nat (by omega), hc1]
  rw [Option.bind_some, bitCount_eq (hq.and _), Option.bind_some, add_eq _ _ _ _ l1, Option.bind_some, hc2, Option.bind_some, bitCount_eq (hq.and _), Option.bind_some, add_eq _ _ _ _ l2, Option.bind_some, hc3, Option.bind_some, bitCount_eq (hq.and _), Option.bind_some, add_eq _ _ _ _ l3, Option.bind_some]
  exact congrArg (fun z => some (Sum.inl (z, _))) (i3_add i 1)
theorem sort_step {su : Fn} {w : SCv} (a b la ra : Int32) (x y z : Nat) {i : Nat} (hi : i < 6) (hq : Sm (su i)) (h1 : w.1 = a) (h2 : w.2.1 = b) (hw : ∀ lm rm, f_X1_outcome w (i3 i / (2 : Int32)) lm rm = some (ocj a b la ra i lm rm)) : f_X3_sort_B6 su w (i3 i, (i3 x, i3 y, i3 z)) = some (.inl (i3 (i + 1), (i3 (x + tq su a b la ra 0 i), i3 (y + tq su a b la ra 1 i), i3 (z + tq su a b la ra 2 i)))) := by
  subst h1
  subst h2
  unfold f_X3_sort_B6
  rw [if_neg (n6 hi)]
  show (if i3 i - i3 i / (2 : Int32) * (2 : Int32) = 0 then f_X3_sort_B6_b26 su w (i3 x, i3 y, i3 z) (i3 i) (-1) else f_X3_sort_B6_b26 su w (i3 x, i3 y, i3 z) (i3 i) 1) = _
  unfold tq mo
  simp only [← Nat.add_assoc]
  by_cases c0 : i % 2 = 0
  · rw [if_pos ((par_eq hi).mpr c0), if_pos c0, s26 x y z (-1) _ _ _ hi hq (hw (-1) 0) (hw 0 (-1)) (hw 0 0) (ocj_le _ _ _ _ _ _ _) (ocj_le _ _ _ _ _ _ _) (ocj_le _ _ _ _ _ _ _)]
  · rw [if_neg (fun z => c0 ((par_eq hi).mp z)), if_neg c0, s26 x y z 1 _ _ _ hi hq (hw 1 0) (hw 0 1) (hw 0 0) (ocj_le _ _ _ _ _ _ _) (ocj_le _ _ _ _ _ _ _) (ocj_le _ _ _ _ _ _ _)]
theorem sort_end {su : Fn} {w : SCv} {v : TAv} : f_X3_sort_B6 su w (i3 6, v) = some (.inr v) := by
  unfold f_X3_sort_B6
  exact if_pos (by decide : (6 : Int32) ≤ i3 6)
theorem sort_run {su : Fn} {w : SCv} (a b la ra : Int32) (hq : ∀ i, i < 6 → Sm (su i)) (h1 : w.1 = a) (h2 : w.2.1 = b) (hw : ∀ i, i < 6 → ∀ lm rm, f_X1_outcome w (i3 i / (2 : Int32)) lm rm = some (ocj a b la ra i lm rm)) (v : TAv) : f_X3_sort su w v = some (i3 (sm (tq su a b la ra 0) 6), i3 (sm (tq su a b la ra 1) 6), i3 (sm (tq su a b la ra 2) 6)) := by
  unfold f_X3_sort f_X5_clear
  have hl := itl_for (f := f_X3_sort_B6 su w) (fun i => (i3 i, ((i3 (sm (tq su a b la ra 0) i), i3 (sm (tq su a b la ra 1) i), i3 (sm (tq su a b la ra 2) i)) : TAv))) 6 (e := ((i3 (sm (tq su a b la ra 0) 6), i3 (sm (tq su a b la ra 1) 6), i3 (sm (tq su a b la ra 2) 6)) : TAv)) (by decide) (fun i hi => sort_step a b la ra _ _ _ hi (hq i hi) h1 h2 (hw i hi)) sort_end
  generalize tq su a b la ra 0 = t0 at hl ⊢
  generalize tq su a b la ra 1 = t1 at hl ⊢
  generalize tq su a b la ra 2 = t2 at hl ⊢
  have hl' : itl (f_X3_sort_B6 su w) FU ((0 : Int32), ((0 : Int32), (0 : Int32), (0 : Int32))) = _ := hl
  simp only [Option.bind_some]
  rw [hl']
  rfl
theorem sort_eq {su : Fn} {P : Nat → Bool} (h : SuP su P) (a b la ra : Int32) (hd : ∀ q, ¬ (bt a q = true ∧ bt b q = true)) (v : TAv) : f_X3_sort su (scOf a b la ra) v = some (i3 (cn P a b la ra 0), i3 (cn P a b la ra 1), i3 (cn P a b la ra 2)) := by
  have key : ∀ q, sm (tq su a b la ra q) 6 = cn P a b la ra q := fun q => by
    unfold cn
    rw [← sm_reg]
    exact sm_cong (fun j hj => tq_eq h a b la ra q hd hj)
  rw [sort_run a b la ra (fun i hi => (h i hi).1) rfl rfl (fun i hi lm rm => scj_eq a b la ra lm rm hi) v, key 0, key 1, key 2]
