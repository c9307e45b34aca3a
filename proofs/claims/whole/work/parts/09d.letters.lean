/-! ===== letters ===== -/
def ltr (n : Nat) (S : Fn) : Nat → Nat → Int32 → Nat → Int32 × Nat
  | 0, _, s, p => (s, p)
  | k + 1, c, s, p => if sg n S p = i3 (97 + c) then ltr n S k (c + 1) (s ||| ((1 : Int32) <<< (i3 c &&& 31))) (p + 1) else ltr n S k (c + 1) s p
theorem ltr_none {n : Nat} {S : Fn} : ∀ (k c : Nat) (s : Int32) (p : Nat), c + k = 12 → (∀ d, c ≤ d → d < 12 → ¬ sg n S p = i3 (97 + d)) → ltr n S k c s p = (s, p) := by
  intro k
  induction k with
  | zero => intro c s p _ _; rfl
  | succ k ih =>
    intro c s p hc h
    show (if sg n S p = i3 (97 + c) then _ else ltr n S k (c + 1) s p) = _
    rw [if_neg (h c (Nat.le_refl c) (by omega))]
    exact ih (c + 1) s p (by omega) (fun d h1 h2 => h d (by omega) h2)
theorem ltr_skip {n : Nat} {S : Fn} {d : Nat} (hd : d < 12) : ∀ (k c : Nat) (s : Int32) (p : Nat), c + k = 12 → c ≤ d → sg n S p = i3 (97 + d) → ltr n S k c s p = ltr n S (12 - (d + 1)) (d + 1) (s ||| ((1 : Int32) <<< (i3 d &&& 31))) (p + 1) := by
  intro k
  induction k with
  | zero => intro c s p hc hcd; omega
  | succ k ih =>
    intro c s p hc hcd h
    show (if sg n S p = i3 (97 + c) then ltr n S k (c + 1) (s ||| ((1 : Int32) <<< (i3 c &&& 31))) (p + 1) else ltr n S k (c + 1) s p) = _
    by_cases hcd' : c = d
    · subst hcd'
      rw [if_pos h, show k = 12 - (c + 1) by omega]
    · rw [if_neg (fun z => by
        rw [h] at z
        have := (i3_eq (by omega) (by omega)).mp z
        omega)]
      exact ih (c + 1) s p (by omega) (by omega) h
theorem ltr_pos {n : Nat} {S : Fn} : ∀ (k c : Nat) (s : Int32) (p : Nat), c + k ≤ 12 → p ≤ n → p ≤ (ltr n S k c s p).2 ∧ (ltr n S k c s p).2 ≤ n := by
  intro k
  induction k with
  | zero => intro c s p _ hp; exact ⟨Nat.le_refl p, hp⟩
  | succ k ih =>
    intro c s p hc hp
    show p ≤ (if sg n S p = i3 (97 + c) then ltr n S k (c + 1) (s ||| ((1 : Int32) <<< (i3 c &&& 31))) (p + 1) else ltr n S k (c + 1) s p).2 ∧ (if sg n S p = i3 (97 + c) then ltr n S k (c + 1) (s ||| ((1 : Int32) <<< (i3 c &&& 31))) (p + 1) else ltr n S k (c + 1) s p).2 ≤ n
    by_cases h : sg n S p = i3 (97 + c)
    · rw [if_pos h]
      have hpn : p < n := sg_in (by omega) h
      have h2 := ih (c + 1) (s ||| ((1 : Int32) <<< (i3 c &&& 31))) (p + 1) (by omega) hpn
      exact ⟨by omega, h2.2⟩
    · rw [if_neg h]
      exact ih (c + 1) s p (by omega) hp
theorem ltr_set {n : Nat} {S : Fn} : ∀ (k c : Nat) (s : Int32) (p : Nat), c + k ≤ 12 → SetC 12 s → SetC 12 (ltr n S k c s p).1 := by
  intro k
  induction k with
  | zero => intro c s p _ hs; exact hs
  | succ k ih =>
    intro c s p hc hs
    show SetC 12 (if sg n S p = i3 (97 + c) then ltr n S k (c + 1) (s ||| ((1 : Int32) <<< (i3 c &&& 31))) (p + 1) else ltr n S k (c + 1) s p).1
    by_cases h : sg n S p = i3 (97 + c)
    · rw [if_pos h]
      exact ih _ _ _ (by omega) (SetC.or_iff.mpr ⟨hs, shl_SetC (by omega) (by decide)⟩)
    · rw [if_neg h]
      exact ih _ _ _ (by omega) hs
/-- the letters of a pan -/
abbrev lt0 (n : Nat) (S : Fn) (p : Nat) : Int32 × Nat := ltr n S 12 0 0 p
theorem lt0_pos {n : Nat} {S : Fn} {p : Nat} (hp : p ≤ n) : p ≤ (lt0 n S p).2 ∧ (lt0 n S p).2 ≤ n := ltr_pos 12 0 0 p (by decide) hp
theorem set0 : SetC 12 0 := fun b _ => bt_zero b
theorem lt0_m1 (n : Nat) (S : Fn) (p : Nat) : ¬ (lt0 n S p).1 = (-1 : Int32) := by
  obtain ⟨k, hk, e⟩ := (ltr_set (n := n) (S := S) 12 0 0 p (by decide) set0).of (by decide)
  have e : (lt0 n S p).1 = i3 k := e
  rw [e]
  exact i3_m1 (by omega)
theorem coins_loop {n : Nat} {S v : Fn} (hT : TxR n S v) : ∀ (k c : Nat) (s : Int32) (p N : Nat) (x : TXv), c + k = 12 → k < N → p < 1000 → TXs n p false S x → itl f_X6_readCoins_B4 N (s, i3 c, x) = some ((ltr n S k c s p).1, atx x (i3 (ltr n S k c s p).2)) := by
  intro k
  induction k with
  | zero =>
    intro c s p N x hc hN hp h
    have hc : c = 12 := by omega
    subst hc
    obtain ⟨N, rfl⟩ : ∃ N', N = N' + 1 := ⟨N - 1, by omega⟩
    show (f_X6_readCoins_B4 (s, i3 12, x)).bind _ = _
    unfold f_X6_readCoins_B4
    rw [if_pos (by decide : (12 : Int32) ≤ i3 12)]
    show some (s, x) = some (s, atx x (i3 p))
    rw [← h.2.1]
  | succ k ih =>
    intro c s p N x hc hN hp h
    obtain ⟨N, rfl⟩ : ∃ N', N = N' + 1 := ⟨N - 1, by omega⟩
    have e1 : (97 : Int32) + i3 c = i3 (97 + c) := i3_add 97 c
    have e2 : i3 c + (1 : Int32) = i3 (c + 1) := i3_add c 1
    have e3 : x.2.1 + (1 : Int32) = i3 (p + 1) := by rw [h.2.1]; exact i3_add p 1
    show (f_X6_readCoins_B4 (s, i3 c, x)).bind _ = _
    unfold f_X6_readCoins_B4 f_X6_readCoins_B4_b37
    rw [if_neg (by show ¬ i3 12 ≤ i3 c; rw [i3_le (by decide) (by omega)]; omega), next_ok h hT.1 (by omega), Option.bind_some, e1, e2]
    show (if sg n S p = i3 (97 + c) then some (Sum.inl (s ||| ((1 : Int32) <<< (i3 c &&& 31)), i3 (c + 1), atx x (x.2.1 + (1 : Int32)))) else some (Sum.inl (s, i3 (c + 1), x))).bind (Sum.elim (itl f_X6_readCoins_B4 N) some) = some ((if sg n S p = i3 (97 + c) then ltr n S k (c + 1) (s ||| ((1 : Int32) <<< (i3 c &&& 31))) (p + 1) else ltr n S k (c + 1) s p).1, atx x (i3 (if sg n S p = i3 (97 + c) then ltr n S k (c + 1) (s ||| ((1 : Int32) <<< (i3 c &&& 31))) (p + 1) else ltr n S k (c + 1) s p).2))
    rw [e3]
    by_cases hs : sg n S p = i3 (97 + c)
    · rw [if_pos hs, if_pos hs]
      have hpn : p < n := sg_in (by omega) hs
      have hn := hT.1
      exact ih (c + 1) _ (p + 1) N (atx x (i3 (p + 1))) (by omega) (by omega) (by omega) (h.at (p + 1))
    · rw [if_neg hs, if_neg hs]
      exact ih (c + 1) s p N x (by omega) (by omega) hp h
theorem coins_ok {n p : Nat} {S v : Fn} {x : TXv} (h : TXs n p false S x) (hT : TxR n S v) (hp : p < 1000) : f_X6_readCoins x = some ((lt0 n S p).1, atx x (i3 (lt0 n S p).2)) := by
  unfold f_X6_readCoins
  have hl := coins_loop hT 12 0 0 p FU x rfl (by decide) hp h
  have hl' : itl f_X6_readCoins_B4 FU ((0 : Int32), (0 : Int32), x) = _ := hl
  rw [hl']
  rfl
theorem coins_wr {n p : Nat} {S : Fn} {x : TXv} (h : TXs n p true S x) : ∃ y, f_X6_readCoins x = some (y, x) := by
  unfold f_X6_readCoins
  obtain ⟨e, h1, h2⟩ := itl_inv (f := f_X6_readCoins_B4) (fun i (z : Int32 × Int32 × TXv) => z.2.1 = i3 i ∧ z.2.2 = x) (fun (e : Int32 × TXv) => e.2 = x) 12 (by
    rintro i ⟨s, y, x'⟩ hi ⟨e1, e2⟩
    have e1 : y = i3 i := e1
    have e2 : x' = x := e2
    subst e1
    subst e2
    have e3 : (97 : Int32) + i3 i = i3 (97 + i) := i3_add 97 i
    refine ⟨(s, i3 i + (1 : Int32), x'), ?_, i3_add i 1, rfl⟩
    unfold f_X6_readCoins_B4 f_X6_readCoins_B4_b37
    rw [if_neg (by show ¬ i3 12 ≤ i3 i; rw [i3_le (by decide) (by omega)]; omega), next_wr h, Option.bind_some, e3, if_neg (fun z => i3_m1 (show 97 + i < 2 ^ 31 by omega) z.symm)]) (by
    rintro ⟨s, y, x'⟩ ⟨e1, e2⟩
    have e1 : y = i3 12 := e1
    have e2 : x' = x := e2
    subst e1
    subst e2
    refine ⟨(s, x'), ?_, rfl⟩
    unfold f_X6_readCoins_B4
    exact if_pos (by decide : (12 : Int32) ≤ i3 12)) ((0 : Int32), (0 : Int32), x) ⟨rfl, rfl⟩ (by decide)
  rw [h1, Option.bind_some, h2]
  exact ⟨e.1, rfl⟩
theorem let_loop {n : Nat} {S v : Fn} {u : MOv} (hT : TxR n S v) (hu : u.2.1 = i3 n) (o en : Int32) : ∀ (m k c : Nat) (s : Int32) (p N : Nat), k ≤ m → c + k = 12 → k < N → p < 1000 → itl (f_X8_letters_B5 v en) N (s, i3 (97 + c), mS u (i3 p) o) = some ((ltr n S k c s p).1, mS u (i3 (ltr n S k c s p).2) o) := by
  intro m
  induction m with
  | zero =>
    intro k c s p N hk hc hN hp
    have hk : k = 0 := by omega
    subst hk
    have hc : c = 12 := by omega
    subst hc
    obtain ⟨N, rfl⟩ : ∃ N', N = N' + 1 := ⟨N - 1, by omega⟩
    have hin : f_X8_in (sg n S p).toInt64 (i3 (97 + 12)).toInt64 (108 : Int64) = _ := in32 (sg n S p) (i3 (97 + 12)) 108
    have hf : ¬ (i3 (97 + 12) ≤ sg n S p ∧ sg n S p ≤ (108 : Int32)) := fun z => by
      have z1 := z.1
      have z2 := z.2
      rw [Int32.le_iff_toInt_le] at z1 z2
      have e1 : (i3 (97 + 12)).toInt = 109 := by decide
      have e2 : (108 : Int32).toInt = 108 := by decide
      omega
    show (f_X8_letters_B5 v en (s, i3 (97 + 12), mS u (i3 p) o)).bind _ = _
    unfold f_X8_letters_B5
    rw [sign_ok hT hu (by omega) o, Option.bind_some, hin, Option.bind_some, decide_eq_false hf, if_pos bfF]
    rfl
  | succ m ih =>
    intro k c s p N hk hc hN hp
    obtain ⟨N, rfl⟩ : ∃ N', N = N' + 1 := ⟨N - 1, by omega⟩
    have hin : f_X8_in (sg n S p).toInt64 (i3 (97 + c)).toInt64 (108 : Int64) = _ := in32 (sg n S p) (i3 (97 + c)) 108
    show (f_X8_letters_B5 v en (s, i3 (97 + c), mS u (i3 p) o)).bind _ = _
    unfold f_X8_letters_B5
    rw [sign_ok hT hu (by omega) o, Option.bind_some, hin, Option.bind_some]
    by_cases hr : i3 (97 + c) ≤ sg n S p ∧ sg n S p ≤ (108 : Int32)
    · rw [decide_eq_true hr, if_neg bfT, Option.bind_some, Option.bind_some]
      rcases sg_cases hT p with hs | ⟨hpn, q, hq, hs⟩
      · rw [hs] at hr
        have z1 := hr.1
        rw [Int32.le_iff_toInt_le, i3_int (by omega)] at z1
        have e2 : (-1 : Int32).toInt = -1 := by decide
        omega
      · rw [hs] at hr ⊢
        have r1 : 97 + c ≤ q := (i3_le (by omega) (by omega)).mp hr.1
        have r2 : q ≤ 108 := (i3_le (by omega) (by decide : 108 < 2 ^ 31)).mp hr.2
        have hn := hT.1
        obtain ⟨d, rfl⟩ : ∃ d, q = 97 + d := ⟨q - 97, by omega⟩
        have e1 : i3 (97 + d) - (97 : Int32) = i3 d := (i3_sub (a := 97 + d) (b := 97) (by omega)).trans (congrArg i3 (by omega))
        have e2 : i3 (97 + d) + (1 : Int32) = i3 (97 + (d + 1)) := i3_add (97 + d) 1
        have e3 : i3 p + (1 : Int32) = i3 (p + 1) := i3_add p 1
        rw [e1, e2, ltr_skip (show d < 12 by omega) k c s p hc (by omega) hs]
        show itl (f_X8_letters_B5 v en) N (s ||| ((1 : Int32) <<< (i3 d &&& 31)), i3 (97 + (d + 1)), mS u (i3 p + (1 : Int32)) o) = _
        rw [e3]
        exact ih (12 - (d + 1)) (d + 1) _ (p + 1) N (by omega) (by omega) (by omega) (by omega)
    · rw [decide_eq_false hr, if_pos bfF, ltr_none k c s p hc (fun d h1 h2 z => hr (by
        rw [z]
        exact ⟨(i3_le (by omega) (by omega)).mpr (by omega), (i3_le (by omega) (by decide : 108 < 2 ^ 31)).mpr (by omega)⟩))]
      rfl
theorem let_ok {n p : Nat} {S v : Fn} {u : MOv} (hT : TxR n S v) (hu : u.2.1 = i3 n) (o en : Int32) (hp : p ≤ n) : f_X8_letters (mS u (i3 p) o) v en = if sg n S (lt0 n S p).2 = en then some ((lt0 n S p).1, mS u (i3 ((lt0 n S p).2 + 1)) o) else some ((-1 : Int32), mS u (i3 (lt0 n S p).2) o) := by
  have hn := hT.1
  have hq := (lt0_pos (S := S) hp).2
  have hl := let_loop hT hu o en 12 12 0 0 p FU (Nat.le_refl 12) rfl (by decide) (by omega)
  have hl' : itl (f_X8_letters_B5 v en) FU ((0 : Int32), (97 : Int32), mS u (i3 p) o) = _ := hl
  have e1 : i3 (lt0 n S p).2 + (1 : Int32) = i3 ((lt0 n S p).2 + 1) := i3_add _ 1
  unfold f_X8_letters
  rw [hl', Option.bind_some]
  show (f_X8_sign (mS u (i3 (lt0 n S p).2) o) v).bind (fun q1062 => if q1062 = en then some ((lt0 n S p).1, mS u (i3 (lt0 n S p).2 + (1 : Int32)) o) else some ((-1 : Int32), mS u (i3 (lt0 n S p).2) o)) = _
  rw [sign_ok hT hu (by omega) o, Option.bind_some, e1]
