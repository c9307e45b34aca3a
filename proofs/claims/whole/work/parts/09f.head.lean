/-! ===== the head of the text ===== -/
abbrev sCo (x : TXv) (y : Int32) : TXv := (x.1, x.2.1, x.2.2.1, y, x.2.2.2.2.1, x.2.2.2.2.2.1, x.2.2.2.2.2.2.1, x.2.2.2.2.2.2.2.1, x.2.2.2.2.2.2.2.2)
abbrev sHi (x : TXv) (y : Int32) : TXv := (x.1, x.2.1, x.2.2.1, x.2.2.2.1, y, x.2.2.2.2.2.1, x.2.2.2.2.2.2.1, x.2.2.2.2.2.2.2.1, x.2.2.2.2.2.2.2.2)
theorem TXs.co {n p : Nat} {w : Bool} {S : Fn} {x : TXv} (h : TXs n p w S x) (y : Int32) : TXs n p w S (sCo x y) := h.fld rfl rfl rfl rfl
theorem TXs.hi {n p : Nat} {w : Bool} {S : Fn} {x : TXv} (h : TXs n p w S x) (y : Int32) : TXs n p w S (sHi x y) := h.fld rfl rfl rfl rfl
def hidV (co ci so pa : Int32) : Int32 := ((3 : Int32) * (if so = (2 : Int32) then (2 : Int32) * co else if ci < co then ((2 : Int32) * ci) + so else (2 : Int32) * co)) + pa
def hEnd (x : TXv) (ci so pa : Int32) : Option TXv := if so = (2 : Int32) then f_X6_readHead_b63 x ci so pa else if ci < x.2.2.2.1 then f_X6_readHead_b68 x ci so pa false else f_X6_readHead_b63 x ci so pa
theorem fin_eq (x : TXv) (ci so pa : Int32) : hEnd x ci so pa = some (sHi x (hidV x.2.2.2.1 ci so pa)) := by
  have e1 : f_X6_readHead_b63 x ci so pa = some (sHi x (((3 : Int32) * ((2 : Int32) * x.2.2.2.1)) + pa)) := by
    unfold f_X6_readHead_b63 f_X6_readHead_b68 f_X6_readHead_b91
    rw [if_neg bfT]
  have e2 : f_X6_readHead_b68 x ci so pa false = some (sHi x (((3 : Int32) * (((2 : Int32) * ci) + so)) + pa)) := by
    unfold f_X6_readHead_b68 f_X6_readHead_b91
    rw [if_pos bfF]
  unfold hEnd hidV
  rw [e1, e2]
  by_cases h1 : so = (2 : Int32)
  · rw [if_pos h1, if_pos h1]
  · rw [if_neg h1, if_neg h1]
    by_cases h2 : ci < x.2.2.2.1
    · rw [if_pos h2, if_pos h2]
    · rw [if_neg h2, if_neg h2]
/-- behind an error in the head -/
theorem hw_3 {n p : Nat} {S : Fn} {x : TXv} (h : TXs n p true S x) (ci so : Int32) : ∃ x', (f_X6_readDigit x (0 : Int32) (2 : Int32)).bind (fun q329 => hEnd q329.2 ci so q329.1) = some x' ∧ TXs n p true S x' := by
  have hd : f_X6_readDigit x (0 : Int32) (2 : Int32) = _ := dig_wr h (lo := 0) (by decide) (2 : Int32)
  rw [hd, Option.bind_some, fin_eq]
  exact ⟨_, rfl, h.wr.hi _⟩
theorem hw_2 {n p : Nat} {S : Fn} {x : TXv} (h : TXs n p true S x) (ci : Int32) : ∃ x', (f_X6_readOneOf 1 x).bind (fun q328 => (f_X6_readDigit q328.2 (0 : Int32) (2 : Int32)).bind (fun q329 => hEnd q329.2 ci q328.1 q329.1)) = some x' ∧ TXs n p true S x' := by
  rw [one_wr 1 h, Option.bind_some]
  exact hw_3 h.wr ci 0
theorem hw_1 {n p : Nat} {S : Fn} {x : TXv} (h : TXs n p true S x) : ∃ x', (f_X6_readNumber x (i3 0) (i3 11)).bind (fun q327 => (f_X6_readOneOf 1 q327.2).bind (fun q328 => (f_X6_readDigit q328.2 (0 : Int32) (2 : Int32)).bind (fun q329 => hEnd q329.2 q327.1 q328.1 q329.1))) = some x' ∧ TXs n p true S x' := by
  obtain ⟨z, x1, k1, k2⟩ := num_wr h (lo := 0) (by decide) (i3 11)
  rw [k1, Option.bind_some]
  exact hw_2 k2 z
theorem hw_0 {n p : Nat} {S : Fn} {x : TXv} (h : TXs n p true S x) : ∃ x', (f_X6_readNumber x (i3 3) (i3 12)).bind (fun q326 => (f_X6_readNumber (sCo q326.2 q326.1) (i3 0) (i3 11)).bind (fun q327 => (f_X6_readOneOf 1 q327.2).bind (fun q328 => (f_X6_readDigit q328.2 (0 : Int32) (2 : Int32)).bind (fun q329 => hEnd q329.2 q327.1 q328.1 q329.1)))) = some x' ∧ TXs n p true S x' := by
  obtain ⟨z, x1, k1, k2⟩ := num_wr h (lo := 3) (by decide) (i3 12)
  rw [k1, Option.bind_some]
  exact hw_1 (k2.co z)
/-- a digit of its own, by both -/
theorem pan_both {n p : Nat} {S v : Fn} {x : TXv} {u : MOv} {a : Int32} (h : TXs n p false S x) (hT : TxR n S v) (hu : u.2.1 = i3 n) (hp : p < 1000) (o : Int32) (ha : ¬ a = (-1 : Int32)) :
    (∃ d, d ≤ 2 ∧ p + 1 ≤ n ∧ f_X6_readDigit x (0 : Int32) (2 : Int32) = some (i3 d, atx x (i3 (p + 1))) ∧ f_X8_figures (mS u (i3 p) o) v a (1 : Int32) (0 : Int32) (2 : Int32) = some (i3 d, mS u (i3 (p + 1)) o)) ∨ (f_X6_readDigit x (0 : Int32) (2 : Int32) = some ((0 : Int32), wrx x) ∧ f_X8_figures (mS u (i3 p) o) v a (1 : Int32) (0 : Int32) (2 : Int32) = some ((-1 : Int32), mS u (i3 p) o)) := by
  have F0 : ∀ r, f_X8_figures_b14 (mS u (i3 p) o) v a (i3 0) (i3 2) (0 : Int32) (1 : Int32) = r → f_X8_figures (mS u (i3 p) o) v a (1 : Int32) (0 : Int32) (2 : Int32) = r := fun r hr => by
    unfold f_X8_figures
    rw [if_neg (by decide)]
    exact hr
  have F1 : ∀ q, itl (f_X8_figures_B16 v a (i3 0) (i3 2)) FU (i3 0, i3 1, mS u (i3 p) o) = some (.inl (mS u (i3 q) o)) → f_X8_figures (mS u (i3 p) o) v a (1 : Int32) (0 : Int32) (2 : Int32) = some ((-1 : Int32), mS u (i3 q) o) := fun q hq => F0 _ (by
    unfold f_X8_figures_b14
    have hq' : itl (f_X8_figures_B16 v a (i3 0) (i3 2)) FU ((0 : Int32), (1 : Int32), mS u (i3 p) o) = _ := hq
    rw [hq']
    rfl)
  have F2 : ∀ w q, itl (f_X8_figures_B16 v a (i3 0) (i3 2)) FU (i3 0, i3 1, mS u (i3 p) o) = some (.inr (i3 w, mS u (i3 q) o)) → f_X8_figures (mS u (i3 p) o) v a (1 : Int32) (0 : Int32) (2 : Int32) = some (i3 w, mS u (i3 q) o) := fun w q hq => F0 _ (by
    unfold f_X8_figures_b14 f_X8_figures_b102
    have hq' : itl (f_X8_figures_B16 v a (i3 0) (i3 2)) FU ((0 : Int32), (1 : Int32), mS u (i3 p) o) = _ := hq
    rw [hq', Option.bind_some]
    exact if_neg ha)
  have I1 : ∀ (z : Int32 × Int32 × MOv) (N : Nat) (e : MOv ⊕ (Int32 × MOv)), f_X8_figures_B16 v a (i3 0) (i3 2) z = some (.inr e) → itl (f_X8_figures_B16 v a (i3 0) (i3 2)) (N + 1) z = some e := fun z N e hz => by
    show (f_X8_figures_B16 v a (i3 0) (i3 2) z).bind _ = _
    rw [hz]
    rfl
  have I2 : ∀ (z z' : Int32 × Int32 × MOv) (N : Nat) (e : MOv ⊕ (Int32 × MOv)), f_X8_figures_B16 v a (i3 0) (i3 2) z = some (.inl z') → itl (f_X8_figures_B16 v a (i3 0) (i3 2)) N z' = some e → itl (f_X8_figures_B16 v a (i3 0) (i3 2)) (N + 1) z = some e := fun z z' N e hz hz' => by
    show (f_X8_figures_B16 v a (i3 0) (i3 2) z).bind _ = _
    rw [hz]
    exact hz'
  rcases dig_ok h hT (show p < 2 ^ 30 by omega) (show 0 < 10 by decide) (show 2 < 10 by decide) with ⟨d, g1, g2, g3, g4⟩ | ⟨g1, g2⟩
  · have hpn : p < n := sg_in (by omega) g3
    refine Or.inl ⟨d, g2, hpn, g4, F2 _ _ ?_⟩
    rcases fig_step (a := a) (V := 0) (U := 1) (lo := 0) (hi := 2) hT hu (show p < 2 ^ 30 by omega) o ha (by decide) (by decide) (by decide) (by decide) with ⟨d', k1, k2, k3, k4, k5⟩ | ⟨k1, -⟩
    · have hdd : d' = d := by
        rw [g3] at k2
        have := (i3_eq (by omega) (by omega)).mp k2
        omega
      subst hdd
      rw [show 0 + d' * 1 = d' by omega] at k5
      refine I2 _ _ 5999 _ k5 (I1 _ 5998 _ ?_)
      unfold f_X8_figures_B16
      exact if_pos (by decide : i3 (1 / 10) ≤ 0)
    · exact absurd ⟨by omega, by omega⟩ (k1 d (by omega) g3)
  · refine Or.inr ⟨g2, F1 _ ?_⟩
    rcases fig_step (a := a) (V := 0) (U := 1) (lo := 0) (hi := 2) hT hu (show p < 2 ^ 30 by omega) o ha (by decide) (by decide) (by decide) (by decide) with ⟨d', k1, k2, k3, k4, -⟩ | ⟨-, k2⟩
    · exact absurd k2 (g1 d' (by omega) (by omega))
    · exact I1 _ 5999 _ k2
def rEnd (u : MOv) (v w : Fn) (co ci so pa : Int32) : Option (Bool × MOv × Fn) := if so = (2 : Int32) then f_X8_readCase_b124 u v w co pa (3 : Int32) co else if ci < co then f_X8_readCase_b136 u v w pa (((2 : Int32) * ci) + so) (3 : Int32) co else f_X8_readCase_b124 u v w co pa (3 : Int32) co
theorem rEnd_eq (u : MOv) (v w : Fn) (co ci so pa : Int32) : rEnd u v w co ci so pa = (f_X8_hideOn w co (hidV co ci so pa)).bind (fun q => some (true, u, q.2)) := by
  unfold rEnd hidV f_X8_readCase_b124 f_X8_readCase_b136
  by_cases h1 : so = (2 : Int32)
  · rw [if_pos h1, if_pos h1]
  · rw [if_neg h1, if_neg h1]
    by_cases h2 : ci < co
    · rw [if_pos h2, if_pos h2]
    · rw [if_neg h2, if_neg h2]
theorem add_f (x : Int32) : x + b2i false = x := Int32.add_zero x
theorem b69_no (u : MOv) (v w : Fn) (p o co ci : Int32) : f_X8_readCase_b69 (mS u p o) v w co ci (-1 : Int32) = some (false, mS u p o, w) := by
  unfold f_X8_readCase_b69 f_X8_readCase_b87
  rw [if_pos rfl]
  show (f_X8_figures (mS u (p + b2i false) o) v (-1 : Int32) (1 : Int32) (0 : Int32) (2 : Int32)).bind _ = _
  rw [add_f, fig_ahead, Option.bind_some]
  exact if_pos rfl
theorem b69_yes (u : MOv) (v w : Fn) (p : Nat) (o co ci : Int32) {so : Nat} (hs : so < 2 ^ 31) : f_X8_readCase_b69 (mS u (i3 p) o) v w co ci (i3 so) = (f_X8_figures (mS u (i3 (p + 1)) o) v (i3 so) (1 : Int32) (0 : Int32) (2 : Int32)).bind (fun q1124 => if q1124.1 = (-1 : Int32) then some (false, q1124.2, w) else rEnd q1124.2 v w co ci (i3 so) q1124.1) := by
  have e : i3 p + b2i true = i3 (p + 1) := i3_add p 1
  unfold f_X8_readCase_b69 f_X8_readCase_b87
  rw [if_neg (i3_m1 hs)]
  show (f_X8_figures (mS u (i3 p + b2i true) o) v (i3 so) (1 : Int32) (0 : Int32) (2 : Int32)).bind _ = _
  rw [e]
  rfl
theorem hidV_lt {c d s q : Nat} (hc : c ≤ 12) (hs : s ≤ 2) (hq : q ≤ 2) (hd : d ≤ 11) : ∃ h, h < nC c ∧ hidV (i3 c) (i3 d) (i3 s) (i3 q) = i3 h := by
  have e2 : (i3 s = (2 : Int32)) ↔ s = 2 := i3_eq (by omega) (by decide : 2 < 2 ^ 31)
  have ld : (i3 d < i3 c) ↔ d < c := i3_lt (by omega) (by omega)
  have m2 : ∀ x, (2 : Int32) * i3 x = i3 (2 * x) := fun x => i3_mul 2 x
  have m3' : ∀ x, (3 : Int32) * i3 x = i3 (3 * x) := fun x => i3_mul 3 x
  unfold hidV nC
  by_cases h2 : s = 2
  · rw [if_pos (e2.mpr h2), m2, m3', i3_add]
    exact ⟨_, by omega, rfl⟩
  · rw [if_neg (fun z => h2 (e2.mp z))]
    by_cases hdc : d < c
    · rw [if_pos (ld.mpr hdc), m2, i3_add, m3', i3_add]
      exact ⟨_, by omega, rfl⟩
    · rw [if_neg (fun z => hdc (ld.mp z)), m2, m3', i3_add]
      exact ⟨_, by omega, rfl⟩
def HdA (n : Nat) (S : Fn) (x : TXv) : Prop := ¬ sg n S 0 = (80 : Int32) ∧ ∃ x', f_X6_readHead x = some x' ∧ TXs n 0 true S x'
def HdB (n : Nat) (S v : Fn) (x : TXv) (u : MOv) (o : Int32) : Prop := sg n S 0 = (80 : Int32) ∧ ∃ x' q, q < 2000 ∧ f_X6_readHead x = some x' ∧ TXs n q true S x' ∧ ∀ w, f_X8_readCase (mS u (i3 1) o) v w = some (false, mS u (i3 q) o, w)
def HdC (n : Nat) (S v : Fn) (x : TXv) (u : MOv) (o : Int32) : Prop := sg n S 0 = (80 : Int32) ∧ ∃ x' c h, f_X6_readHead x = some x' ∧ TXs n 7 false S x' ∧ 7 ≤ n ∧ (3 ≤ c ∧ c ≤ 12) ∧ h < nC c ∧ x'.2.2.2.1 = i3 c ∧ x'.2.2.2.2.1 = i3 h ∧ ∀ w, f_X8_readCase (mS u (i3 1) o) v w = (f_X8_hideOn w (i3 c) (i3 h)).bind (fun q => some (true, mS u (i3 7) o, q.2))
theorem head_both {n : Nat} {S v : Fn} {x : TXv} {u : MOv} (hx1 : x.1 = i3 n) (hxS : tS x = S) (hT : TxR n S v) (hu : u.2.1 = i3 n) (o : Int32) : HdA n S x ∨ HdB n S v x u o ∨ HdC n S v x u o := by
  have hn := hT.1
  have hx0 : TXs n 0 false S (x.1, (0 : Int32), (0 : Int32), x.2.2.2.1, x.2.2.2.2.1, x.2.2.2.2.2.1, x.2.2.2.2.2.2.1, x.2.2.2.2.2.2.2.1, x.2.2.2.2.2.2.2.2) := ⟨hx1, rfl, (show (0 : Int32) = b2i false from rfl), hxS⟩
  have hH : f_X6_readHead x = (f_X6_readOneOf 0 (x.1, (0 : Int32), (0 : Int32), x.2.2.2.1, x.2.2.2.2.1, x.2.2.2.2.2.1, x.2.2.2.2.2.2.1, x.2.2.2.2.2.2.2.1, x.2.2.2.2.2.2.2.2)).bind (fun q325 => (f_X6_readNumber q325.2 (i3 3) (i3 12)).bind (fun q326 => (f_X6_readNumber (sCo q326.2 q326.1) (i3 0) (i3 11)).bind (fun q327 => (f_X6_readOneOf 1 q327.2).bind (fun q328 => (f_X6_readDigit q328.2 (0 : Int32) (2 : Int32)).bind (fun q329 => hEnd q329.2 q327.1 q328.1 q329.1))))) := rfl
  by_cases h80 : sg n S 0 = (80 : Int32)
  · have hi0 : ixq 0 (sg n S 0) = 0 := by
      unfold ixq
      rw [if_pos rfl, if_pos h80]
    rw [one_yes (by decide) hx0 hT (by decide) hi0 (by decide), Option.bind_some] at hH
    have hx1' := hx0.at (0 + 1)
    generalize hX : atx (x.1, (0 : Int32), (0 : Int32), x.2.2.2.1, x.2.2.2.2.1, x.2.2.2.2.2.1, x.2.2.2.2.2.2.1, x.2.2.2.2.2.2.2.1, x.2.2.2.2.2.2.2.2) (i3 (0 + 1)) = X1 at hH hx1'
    have hR : ∀ w, f_X8_readCase (mS u (i3 1) o) v w = (f_X8_figures (mS u (i3 1) o) v (0 : Int32) (2 : Int32) (i3 3) (i3 12)).bind (fun q1119 => (f_X8_figures q1119.2 v q1119.1 (2 : Int32) (i3 0) (i3 11)).bind (fun q1120 => if q1120.1 = (-1 : Int32) then f_X8_readCase_b69 q1120.2 v w q1119.1 q1120.1 (-1 : Int32) else (f_X8_sign q1120.2 v).bind (fun q1121 => if q1121 = (108 : Int32) then f_X8_readCase_b69 q1120.2 v w q1119.1 q1120.1 (0 : Int32) else (f_X8_sign q1120.2 v).bind (fun q1122 => if q1122 = (104 : Int32) then f_X8_readCase_b69 q1120.2 v w q1119.1 q1120.1 (1 : Int32) else (f_X8_sign q1120.2 v).bind (fun q1123 => if q1123 = (116 : Int32) then f_X8_readCase_b69 q1120.2 v w q1119.1 q1120.1 (2 : Int32) else f_X8_readCase_b69 q1120.2 v w q1119.1 q1120.1 (-1 : Int32)))))) := fun w => rfl
    rcases num_both (lo := 3) (hi := 12) hx1' hT hu (show 0 + 1 < 1000 by decide) o (show ¬ (0 : Int32) = -1 by decide) (by decide) (by decide) (by decide) with ⟨c, l1, l2, l3, l4, l5⟩ | ⟨y, x2, q, l0, l1, l2, l3⟩
    · have l5' : f_X8_figures (mS u (i3 1) o) v (0 : Int32) (2 : Int32) (i3 3) (i3 12) = some (i3 c, mS u (i3 3) o) := l5
      have hx3 := (hx1'.at (0 + 1 + 2)).co (i3 c)
      rw [l4, Option.bind_some] at hH
      have hH : f_X6_readHead x = (f_X6_readNumber (sCo (atx X1 (i3 (0 + 1 + 2))) (i3 c)) (i3 0) (i3 11)).bind (fun q327 => (f_X6_readOneOf 1 q327.2).bind (fun q328 => (f_X6_readDigit q328.2 (0 : Int32) (2 : Int32)).bind (fun q329 => hEnd q329.2 q327.1 q328.1 q329.1))) := hH
      rcases num_both (lo := 0) (hi := 11) hx3 hT hu (show 0 + 1 + 2 < 1000 by decide) o (show ¬ i3 c = -1 from i3_m1 (by omega)) (by decide) (by decide) (by decide) with ⟨d, m1, m2, m3, m4, m5⟩ | ⟨y, x2, q, m0, m1, m2, m3⟩
      · have m5' : f_X8_figures (mS u (i3 3) o) v (i3 c) (2 : Int32) (i3 0) (i3 11) = some (i3 d, mS u (i3 5) o) := m5
        have hx5 := hx3.at (0 + 1 + 2 + 2)
        rw [m4, Option.bind_some] at hH
        have hH : f_X6_readHead x = (f_X6_readOneOf 1 (atx (sCo (atx X1 (i3 (0 + 1 + 2))) (i3 c)) (i3 (0 + 1 + 2 + 2)))).bind (fun q328 => (f_X6_readDigit q328.2 (0 : Int32) (2 : Int32)).bind (fun q329 => hEnd q329.2 (i3 d) q328.1 q329.1)) := hH
        have hR5 : ∀ w, f_X8_readCase (mS u (i3 1) o) v w = if sg n S 5 = (108 : Int32) then f_X8_readCase_b69 (mS u (i3 5) o) v w (i3 c) (i3 d) (0 : Int32) else if sg n S 5 = (104 : Int32) then f_X8_readCase_b69 (mS u (i3 5) o) v w (i3 c) (i3 d) (1 : Int32) else if sg n S 5 = (116 : Int32) then f_X8_readCase_b69 (mS u (i3 5) o) v w (i3 c) (i3 d) (2 : Int32) else f_X8_readCase_b69 (mS u (i3 5) o) v w (i3 c) (i3 d) (-1 : Int32) := fun w => by
          rw [hR w, l5', Option.bind_some]
          show (f_X8_figures (mS u (i3 3) o) v (i3 c) (2 : Int32) (i3 0) (i3 11)).bind _ = _
          rw [m5', Option.bind_some]
          show (if i3 d = (-1 : Int32) then _ else (f_X8_sign (mS u (i3 5) o) v).bind (fun q1121 => if q1121 = (108 : Int32) then f_X8_readCase_b69 (mS u (i3 5) o) v w (i3 c) (i3 d) (0 : Int32) else (f_X8_sign (mS u (i3 5) o) v).bind (fun q1122 => if q1122 = (104 : Int32) then f_X8_readCase_b69 (mS u (i3 5) o) v w (i3 c) (i3 d) (1 : Int32) else (f_X8_sign (mS u (i3 5) o) v).bind (fun q1123 => if q1123 = (116 : Int32) then f_X8_readCase_b69 (mS u (i3 5) o) v w (i3 c) (i3 d) (2 : Int32) else f_X8_readCase_b69 (mS u (i3 5) o) v w (i3 c) (i3 d) (-1 : Int32))))) = _
          rw [if_neg (i3_m1 (by omega)), sign_ok hT hu (by decide) o, Option.bind_some, Option.bind_some, Option.bind_some]
        have good : ∀ so : Nat, so ≤ 2 → ixq 1 (sg n S 5) = i3 so → (∀ w, f_X8_readCase (mS u (i3 1) o) v w = f_X8_readCase_b69 (mS u (i3 5) o) v w (i3 c) (i3 d) (i3 so)) → HdB n S v x u o ∨ HdC n S v x u o := by
          intro so hso hix hcase
          have hix' : ixq 1 (sg n S (0 + 1 + 2 + 2)) = i3 so := hix
          have hx6 := hx5.at (0 + 1 + 2 + 2 + 1)
          rw [one_yes (by decide) hx5 hT (by decide) hix' ((nn_iff _).mp (i3_nn (by omega))), Option.bind_some] at hH
          have hH : f_X6_readHead x = (f_X6_readDigit (atx (atx (sCo (atx X1 (i3 (0 + 1 + 2))) (i3 c)) (i3 (0 + 1 + 2 + 2))) (i3 (0 + 1 + 2 + 2 + 1))) (0 : Int32) (2 : Int32)).bind (fun q329 => hEnd q329.2 (i3 d) (i3 so) q329.1) := hH
          rcases pan_both hx6 hT hu (show 0 + 1 + 2 + 2 + 1 < 1000 by decide) o (show ¬ i3 so = -1 from i3_m1 (by omega)) with ⟨e, k1, k2, k3, k4⟩ | ⟨k1, k2⟩
          · have k4' : f_X8_figures (mS u (i3 (5 + 1)) o) v (i3 so) (1 : Int32) (0 : Int32) (2 : Int32) = some (i3 e, mS u (i3 7) o) := k4
            obtain ⟨h, hh1, hh2⟩ := hidV_lt (c := c) (d := d) (s := so) (q := e) (by omega) hso k1 (by omega)
            rw [k3, Option.bind_some, fin_eq] at hH
            refine Or.inr ⟨h80, _, c, h, hH, (hx6.at (0 + 1 + 2 + 2 + 1 + 1)).hi _, by omega, ⟨l1, l2⟩, hh1, rfl, hh2, fun w => ?_⟩
            rw [hcase w, b69_yes u v w 5 o _ _ (by omega), k4', Option.bind_some]
            show (if i3 e = (-1 : Int32) then _ else rEnd (mS u (i3 7) o) v w (i3 c) (i3 d) (i3 so) (i3 e)) = _
            rw [if_neg (i3_m1 (by omega)), rEnd_eq, hh2]
          · have k2' : f_X8_figures (mS u (i3 (5 + 1)) o) v (i3 so) (1 : Int32) (0 : Int32) (2 : Int32) = some ((-1 : Int32), mS u (i3 6) o) := k2
            rw [k1, Option.bind_some, fin_eq] at hH
            refine Or.inl ⟨h80, _, 6, by decide, hH, hx6.wr.hi _, fun w => ?_⟩
            rw [hcase w, b69_yes u v w 5 o _ _ (by omega), k2', Option.bind_some]
            exact if_pos rfl
        by_cases s1 : sg n S 5 = (108 : Int32)
        · refine Or.inr (good 0 (by decide) ?_ (fun w => (hR5 w).trans (if_pos s1)))
          unfold ixq
          rw [if_neg (by decide), if_pos rfl, if_pos s1]
          rfl
        · by_cases s2 : sg n S 5 = (104 : Int32)
          · refine Or.inr (good 1 (by decide) ?_ (fun w => (hR5 w).trans ((if_neg s1).trans (if_pos s2))))
            unfold ixq
            rw [if_neg (by decide), if_pos rfl, if_neg s1, if_pos s2]
            rfl
          · by_cases s3 : sg n S 5 = (116 : Int32)
            · refine Or.inr (good 2 (by decide) ?_ (fun w => (hR5 w).trans ((if_neg s1).trans ((if_neg s2).trans (if_pos s3)))))
              unfold ixq
              rw [if_neg (by decide), if_pos rfl, if_neg s1, if_neg s2, if_pos s3]
              rfl
            · have hix : ixq 1 (sg n S (0 + 1 + 2 + 2)) = -1 := by
                show ixq 1 (sg n S 5) = -1
                unfold ixq
                rw [if_neg (by decide), if_pos rfl, if_neg s1, if_neg s2, if_neg s3]
              rw [one_no (by decide) hx5 hT (by decide) hix, Option.bind_some] at hH
              obtain ⟨x', t1, t2⟩ := hw_3 hx5.wr (i3 d) 0
              refine Or.inr (Or.inl ⟨h80, x', 5, by decide, hH.trans t1, t2, fun w => ?_⟩)
              rw [hR5 w, if_neg s1, if_neg s2, if_neg s3]
              exact b69_no _ _ _ _ _ _ _
      · rw [m1, Option.bind_some] at hH
        obtain ⟨x', t1, t2⟩ := hw_2 m2 y
        refine Or.inr (Or.inl ⟨h80, x', q, by omega, hH.trans t1, t2, fun w => ?_⟩)
        have m3' : f_X8_figures (mS u (i3 3) o) v (i3 c) (2 : Int32) (i3 0) (i3 11) = some ((-1 : Int32), mS u (i3 q) o) := m3
        rw [hR w, l5', Option.bind_some]
        show (f_X8_figures (mS u (i3 3) o) v (i3 c) (2 : Int32) (i3 0) (i3 11)).bind _ = _
        rw [m3', Option.bind_some, if_pos rfl]
        exact b69_no _ _ _ _ _ _ _
    · rw [l1, Option.bind_some] at hH
      obtain ⟨x', t1, t2⟩ := hw_1 (l2.co y)
      refine Or.inr (Or.inl ⟨h80, x', q, by omega, hH.trans t1, t2, fun w => ?_⟩)
      have l3' : f_X8_figures (mS u (i3 1) o) v (0 : Int32) (2 : Int32) (i3 3) (i3 12) = some ((-1 : Int32), mS u (i3 q) o) := l3
      rw [hR w, l3', Option.bind_some]
      show (f_X8_figures (mS u (i3 q) o) v (-1 : Int32) (2 : Int32) (i3 0) (i3 11)).bind _ = _
      rw [fig_ahead, Option.bind_some, if_pos rfl]
      exact b69_no _ _ _ _ _ _ _
  · have hi0 : ixq 0 (sg n S 0) = -1 := by
      unfold ixq
      rw [if_pos rfl, if_neg h80]
    rw [one_no (by decide) hx0 hT (by decide) hi0, Option.bind_some] at hH
    obtain ⟨x', t1, t2⟩ := hw_0 hx0.wr
    exact Or.inl ⟨h80, x', hH.trans t1, t2⟩
