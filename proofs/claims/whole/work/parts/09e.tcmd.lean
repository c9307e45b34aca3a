/-! ===== a command of the text ===== -/
theorem one_yes {i n p : Nat} {S v : Fn} {x : TXv} {k : Int32} (hi : i < 5) (h : TXs n p false S x) (hT : TxR n S v) (hp : p < 2 ^ 30) (hk : ixq i (sg n S p) = k) (h0 : 0 ≤ k) : f_X6_readOneOf i x = some (k, atx x (i3 (p + 1))) := by
  rw [one_ok hi h hT hp, hk, if_pos h0]
theorem one_no {i n p : Nat} {S v : Fn} {x : TXv} (hi : i < 5) (h : TXs n p false S x) (hT : TxR n S v) (hp : p < 2 ^ 30) (hk : ixq i (sg n S p) = -1) : f_X6_readOneOf i x = some ((0 : Int32), wrx x) := by
  rw [one_ok hi h hT hp, hk, if_neg (by decide)]
theorem TXs.fld {n p : Nat} {w : Bool} {S : Fn} {x x' : TXv} (h : TXs n p w S x) (h1 : x'.1 = x.1) (h2 : x'.2.1 = x.2.1) (h3 : x'.2.2.1 = x.2.2.1) (h4 : tS x' = tS x) : TXs n p w S x' := ⟨h1.trans h.1, h2.trans h.2.1, h3.trans h.2.2.1, h4.trans h.2.2.2⟩
abbrev sCm (x : TXv) (y : Int32) : TXv := (x.1, x.2.1, x.2.2.1, x.2.2.2.1, x.2.2.2.2.1, y, x.2.2.2.2.2.2.1, x.2.2.2.2.2.2.2.1, x.2.2.2.2.2.2.2.2)
abbrev sFi (x : TXv) (y : Int32) : TXv := (x.1, x.2.1, x.2.2.1, x.2.2.2.1, x.2.2.2.2.1, x.2.2.2.2.2.1, y, x.2.2.2.2.2.2.2.1, x.2.2.2.2.2.2.2.2)
abbrev sSe (x : TXv) (y : Int32) : TXv := (x.1, x.2.1, x.2.2.1, x.2.2.2.1, x.2.2.2.2.1, x.2.2.2.2.2.1, x.2.2.2.2.2.2.1, y, x.2.2.2.2.2.2.2.2)
theorem TXs.cm {n p : Nat} {w : Bool} {S : Fn} {x : TXv} (h : TXs n p w S x) (y : Int32) : TXs n p w S (sCm x y) := h.fld rfl rfl rfl rfl
theorem TXs.fi {n p : Nat} {w : Bool} {S : Fn} {x : TXv} (h : TXs n p w S x) (y : Int32) : TXs n p w S (sFi x y) := h.fld rfl rfl rfl rfl
theorem TXs.se {n p : Nat} {w : Bool} {S : Fn} {x : TXv} (h : TXs n p w S x) (y : Int32) : TXs n p w S (sSe x y) := h.fld rfl rfl rfl rfl
/-- behind an error nothing more is read -/
theorem wr_tail4 {n p : Nat} {S : Fn} {x : TXv} (h : TXs n p true S x) : ∃ x', (f_X6_readOneOf 4 x).bind (fun q359 => some q359.2) = some x' ∧ TXs n p true S x' := by
  rw [one_wr 4 h]
  exact ⟨_, rfl, h.wr⟩
theorem wr_tail3 {n p : Nat} {S : Fn} {x : TXv} (h : TXs n p true S x) : ∃ x', (f_X6_readCoins x).bind (fun q358 => (f_X6_readOneOf 4 (sSe q358.2 q358.1)).bind (fun q359 => some q359.2)) = some x' ∧ TXs n p true S x' := by
  obtain ⟨y, hy⟩ := coins_wr h
  rw [hy, Option.bind_some]
  exact wr_tail4 (h.se y)
theorem wr_tail2 {n p : Nat} {S : Fn} {x : TXv} (h : TXs n p true S x) : ∃ x', (f_X6_readOneOf 3 x).bind (fun q357 => (f_X6_readCoins q357.2).bind (fun q358 => (f_X6_readOneOf 4 (sSe q358.2 q358.1)).bind (fun q359 => some q359.2))) = some x' ∧ TXs n p true S x' := by
  rw [one_wr 3 h, Option.bind_some]
  exact wr_tail3 h.wr
theorem wr_tail1 {n p : Nat} {S : Fn} {x : TXv} (h : TXs n p true S x) : ∃ x', (f_X6_readCoins x).bind (fun q356 => (f_X6_readOneOf 3 (sFi q356.2 q356.1)).bind (fun q357 => (f_X6_readCoins q357.2).bind (fun q358 => (f_X6_readOneOf 4 (sSe q358.2 q358.1)).bind (fun q359 => some q359.2)))) = some x' ∧ TXs n p true S x' := by
  obtain ⟨y, hy⟩ := coins_wr h
  rw [hy, Option.bind_some]
  exact wr_tail2 (h.fi y)
/-- the class's reader of a command, by what the first sign is -/
theorem rc_none {n p : Nat} {S v : Fn} {x : TXv} (h : TXs n p false S x) (hT : TxR n S v) (hp : p < 1000) (h1 : ¬ sg n S p = (119 : Int32)) (h2 : ¬ sg n S p = (97 : Int32)) : ∃ x', f_X6_readCommand x = some x' ∧ TXs n p true S x' := by
  have hi : ixq 2 (sg n S p) = -1 := by
    unfold ixq
    rw [if_neg (by decide), if_neg (by decide), if_pos rfl, if_neg h1, if_neg h2]
  unfold f_X6_readCommand
  rw [one_no (by decide) h hT (by omega) hi, Option.bind_some]
  show ∃ x', (if (0 : Int32) = 0 then _ else _) = some x' ∧ _
  rw [if_pos rfl]
  exact wr_tail1 ((h.wr).cm 0)
theorem rc_w {n p : Nat} {S v : Fn} {x : TXv} (h : TXs n p false S x) (hT : TxR n S v) (hp : p < 500) (h1 : sg n S p = (119 : Int32)) : f_X6_readCommand x = (f_X6_readOneOf 3 (sFi (atx (sCm (atx x (i3 (p + 1))) 0) (i3 (lt0 n S (p + 1)).2)) (lt0 n S (p + 1)).1)).bind (fun q357 => (f_X6_readCoins q357.2).bind (fun q358 => (f_X6_readOneOf 4 (sSe q358.2 q358.1)).bind (fun q359 => some q359.2))) := by
  have hi : ixq 2 (sg n S p) = 0 := by
    unfold ixq
    rw [if_neg (by decide), if_neg (by decide), if_pos rfl, if_pos h1]
  unfold f_X6_readCommand
  rw [one_yes (by decide) h hT (by omega) hi (by decide), Option.bind_some]
  show (if (0 : Int32) = 0 then (f_X6_readCoins (sCm (atx x (i3 (p + 1))) 0)).bind _ else _) = _
  rw [if_pos rfl, coins_ok ((h.at (p + 1)).cm 0) hT (by omega), Option.bind_some]
theorem rc_a {n p : Nat} {S v : Fn} {x : TXv} (h : TXs n p false S x) (hT : TxR n S v) (hp : p < 500) (h1 : sg n S p = (97 : Int32)) : f_X6_readCommand x = (f_X6_readNumber (sCm (atx x (i3 (p + 1))) 1) (i3 1) (i3 20)).bind (fun q354 => (f_X6_readNumber (sFi q354.2 q354.1) (i3 1) (i3 20)).bind (fun q355 => some (sSe q355.2 q355.1))) := by
  have hi : ixq 2 (sg n S p) = 1 := by
    unfold ixq
    rw [if_neg (by decide), if_neg (by decide), if_pos rfl, if_neg (by rw [h1]; decide), if_pos h1]
  unfold f_X6_readCommand
  rw [one_yes (by decide) h hT (by omega) hi (by decide), Option.bind_some]
  show (if (1 : Int32) = 0 then _ else (f_X6_readNumber (sCm (atx x (i3 (p + 1))) 1) (1 : Int32) (20 : Int32)).bind _) = _
  rw [if_neg (by decide)]
  rfl
theorem done_eq (u : MOv) (p o : Int32) (d : Bool) : f_X8_done (mS u p o) d = some (true, mS u p (o + b2i (!d))) := by
  unfold f_X8_done f_X8_done_b14
  cases d
  · exact if_pos bfF
  · exact if_neg bfT
theorem b94_eq (u : MOv) (v w : Fn) (p o : Int32) (d : Bool) : f_X8_readCommand_b94 (mS u p o) v w d = some (true, mS u p (o + b2i (!d)), w) := by
  unfold f_X8_readCommand_b94
  rw [done_eq, Option.bind_some, if_neg bfT]
theorem b156_eq (u : MOv) (v w : Fn) (p o : Int32) (d : Bool) : f_X8_readCommand_b156 (mS u p o) v w d = some (true, mS u p (o + b2i (!d)), w) := by
  unfold f_X8_readCommand_b156
  rw [done_eq, Option.bind_some, if_neg bfT]
def CmB (n p : Nat) (S v : Fn) (x : TXv) (u : MOv) (o : Int32) (w : Fn) : Prop := ∃ x' q, q < 2000 ∧ f_X6_readCommand x = some x' ∧ TXs n q true S x' ∧ f_X8_readCommand (mS u (i3 p) o) v w = some (false, mS u (i3 q) o, w)
def CmG (n p : Nat) (S v : Fn) (x : TXv) (u : MOv) (o : Int32) (w : Fn) (tb : TBv) (su : Fn) (sc : SCv) : Prop := ∃ x' q d tb' su' sc' w', f_X6_readCommand x = some x' ∧ TXs n q false S x' ∧ p < q ∧ q ≤ n ∧ f_X7_obeyText x' tb su sc = some (d, tb', su', sc') ∧ f_X8_readCommand (mS u (i3 p) o) v w = some (true, mS u (i3 q) (o + b2i (!d)), w') ∧ TabX tb' su' w'
theorem tcmd_w {n p : Nat} {S v w : Fn} {x : TXv} {u : MOv} {tb : TBv} {su : Fn} (h : TXs n p false S x) (hT : TxR n S v) (hu : u.2.1 = i3 n) (hpn : p < n) (o : Int32) (hW : TabX tb su w) (sc : SCv) (h1 : sg n S p = (119 : Int32)) : CmB n p S v x u o w ∨ CmG n p S v x u o w tb su sc := by
  have hn := hT.1
  have ep : i3 p + (1 : Int32) = i3 (p + 1) := i3_add p 1
  obtain ⟨a1, a2⟩ := lt0_pos (S := S) (show p + 1 ≤ n by omega)
  have am := lt0_m1 n S (p + 1)
  have hx1 : TXs n (lt0 n S (p + 1)).2 false S (sFi (atx (sCm (atx x (i3 (p + 1))) 0) (i3 (lt0 n S (p + 1)).2)) (lt0 n S (p + 1)).1) := (((h.at (p + 1)).cm 0).at _).fi _
  have hL1 := let_ok hT hu o (118 : Int32) (show p + 1 ≤ n by omega)
  have hC := rc_w h hT (show p < 500 by omega) h1
  have hR : f_X8_readCommand (mS u (i3 p) o) v w = (f_X8_letters (mS u (i3 (p + 1)) o) v (118 : Int32)).bind (fun q1088 => if q1088.1 = (-1 : Int32) then f_X8_readCommand_b64 q1088.2 v w q1088.1 (-1 : Int32) else (f_X8_letters q1088.2 v (46 : Int32)).bind (fun q1089 => f_X8_readCommand_b64 q1089.2 v w q1088.1 q1089.1)) := by
    unfold f_X8_readCommand
    rw [sign_ok hT hu (by omega) o, Option.bind_some, h1, if_neg (by decide), if_pos rfl]
    show (f_X8_letters (mS u (i3 p + (1 : Int32)) o) v (118 : Int32)).bind _ = _
    rw [ep]
  unfold CmB CmG
  rw [hC, hR, hL1]
  by_cases hv : sg n S (lt0 n S (p + 1)).2 = (118 : Int32)
  · rw [if_pos hv, Option.bind_some, if_neg am]
    have hi : ixq 3 (sg n S (lt0 n S (p + 1)).2) = 0 := by
      unfold ixq
      rw [if_neg (by decide), if_neg (by decide), if_neg (by decide), if_pos rfl, if_pos hv]
    have hvn : (lt0 n S (p + 1)).2 < n := sg_in (k := 118) (by decide) hv
    obtain ⟨b1, b2⟩ := lt0_pos (S := S) (show (lt0 n S (p + 1)).2 + 1 ≤ n by omega)
    have bm := lt0_m1 n S ((lt0 n S (p + 1)).2 + 1)
    have hL2 := let_ok hT hu o (46 : Int32) (show (lt0 n S (p + 1)).2 + 1 ≤ n by omega)
    rw [one_yes (by decide) hx1 hT (by omega) hi (by decide), Option.bind_some]
    rw [hL2]
    have hx2 := hx1.at ((lt0 n S (p + 1)).2 + 1)
    generalize hA : (lt0 n S (p + 1)).1 = A at *
    generalize hq1 : (lt0 n S (p + 1)).2 = q1 at *
    rw [coins_ok hx2 hT (by omega), Option.bind_some]
    have hx3 := (hx2.at (lt0 n S (q1 + 1)).2).se (lt0 n S (q1 + 1)).1
    by_cases hd : sg n S (lt0 n S (q1 + 1)).2 = (46 : Int32)
    · have hi4 : ixq 4 (sg n S (lt0 n S (q1 + 1)).2) = 0 := by
        unfold ixq
        rw [if_neg (by decide), if_neg (by decide), if_neg (by decide), if_neg (by decide), if_pos hd]
      have hdn : (lt0 n S (q1 + 1)).2 < n := sg_in (k := 46) (by decide) hd
      rw [if_pos hd, Option.bind_some]
      have e4 := one_yes (i := 4) (by decide) hx3 hT (by omega) hi4 (by decide)
      generalize hB : (lt0 n S (q1 + 1)).1 = B at *
      generalize hq2 : (lt0 n S (q1 + 1)).2 = q2 at *
      obtain ⟨c, m, hW⟩ := hW
      obtain ⟨d, tb', su', sc', k1, k2, k3⟩ := tryW_both hW sc A B
      have hob : f_X7_obeyText (atx (sSe (atx (atx (sFi (atx (sCm (atx x (i3 (p + 1))) 0) (i3 q1)) A) (i3 (q1 + 1))) (i3 q2)) B) (i3 (q2 + 1))) tb su sc = some (d, tb', su', sc') := by
        unfold f_X7_obeyText
        show (if (0 : Int32) = (1 : Int32) then _ else (f_X4_tryWeighing tb su sc A B).bind _) = _
        rw [if_neg (by decide), k1]
        rfl
      have hE : (f_X6_readOneOf 4 (sSe (atx (atx (sFi (atx (sCm (atx x (i3 (p + 1))) 0) (i3 q1)) A) (i3 (q1 + 1))) (i3 q2)) B)).bind (fun q359 => some q359.2) = some (atx (sSe (atx (atx (sFi (atx (sCm (atx x (i3 (p + 1))) 0) (i3 q1)) A) (i3 (q1 + 1))) (i3 q2)) B) (i3 (q2 + 1))) := by
        rw [e4]
        rfl
      have hM : ∃ w', f_X8_readCommand_b64 (mS u (i3 (q2 + 1)) o) v w A B = some (true, mS u (i3 (q2 + 1)) (o + b2i (!d)), w') ∧ TabX tb' su' w' := by
        unfold f_X8_readCommand_b64
        rw [if_neg bm, k2, Option.bind_some]
        rcases k3 with ⟨rfl, k⟩ | ⟨rfl, oo, r', k4, k5, k6⟩
        · rw [if_pos bfF]
          exact ⟨w, b94_eq _ _ _ _ _ _, k⟩
        · rw [if_neg bfT, k4, Option.bind_some, if_neg (nn_not k5)]
          exact ⟨r', b94_eq _ _ _ _ _ _, k6⟩
      obtain ⟨w', m1, m2⟩ := hM
      exact Or.inr ⟨_, q2 + 1, d, tb', su', sc', w', hE, hx3.at (q2 + 1), by omega, by omega, hob, m1, m2⟩
    · have hi4 : ixq 4 (sg n S (lt0 n S (q1 + 1)).2) = -1 := by
        unfold ixq
        rw [if_neg (by decide), if_neg (by decide), if_neg (by decide), if_neg (by decide), if_neg hd]
      rw [if_neg hd, Option.bind_some]
      have e4 := one_no (i := 4) (by decide) hx3 hT (by omega) hi4
      refine Or.inl ⟨_, (lt0 n S (q1 + 1)).2, by omega, ?_, hx3.wr, ?_⟩
      · show (f_X6_readOneOf 4 (sSe (atx (atx (sFi (atx (sCm (atx x (i3 (p + 1))) 0) (i3 q1)) A) (i3 (q1 + 1))) (i3 (lt0 n S (q1 + 1)).2)) (lt0 n S (q1 + 1)).1)).bind _ = _
        rw [e4]
        rfl
      · unfold f_X8_readCommand_b64
        exact if_pos rfl
  · rw [if_neg hv, Option.bind_some, if_pos rfl]
    have hi : ixq 3 (sg n S (lt0 n S (p + 1)).2) = -1 := by
      unfold ixq
      rw [if_neg (by decide), if_neg (by decide), if_neg (by decide), if_pos rfl, if_neg hv]
    rw [one_no (by decide) hx1 hT (by omega) hi, Option.bind_some]
    obtain ⟨x', t1, t2⟩ := wr_tail3 hx1.wr
    refine Or.inl ⟨x', (lt0 n S (p + 1)).2, by omega, t1, t2, ?_⟩
    unfold f_X8_readCommand_b64
    exact if_pos rfl
theorem okA_i {w : Nat} (h1 : 1 ≤ w) (h2 : w ≤ 20) : okA (i3 w) := ⟨(i3_le (by decide : 1 < 2 ^ 31) (by omega)).mpr h1, (i3_le (by omega) (by decide : 20 < 2 ^ 31)).mpr h2⟩
theorem tcmd_a {n p : Nat} {S v w : Fn} {x : TXv} {u : MOv} {tb : TBv} {su : Fn} (h : TXs n p false S x) (hT : TxR n S v) (hu : u.2.1 = i3 n) (hpn : p < n) (o : Int32) (hW : TabX tb su w) (sc : SCv) (h1 : sg n S p = (97 : Int32)) : CmB n p S v x u o w ∨ CmG n p S v x u o w tb su sc := by
  have hn := hT.1
  have ep : i3 p + (1 : Int32) = i3 (p + 1) := i3_add p 1
  have hC := rc_a h hT (show p < 500 by omega) h1
  have hR : f_X8_readCommand (mS u (i3 p) o) v w = (f_X8_figures (mS u (i3 (p + 1)) o) v (0 : Int32) (2 : Int32) (i3 1) (i3 20)).bind (fun q1098 => (f_X8_figures q1098.2 v q1098.1 (2 : Int32) (i3 1) (i3 20)).bind (fun q1099 => if q1099.1 = (-1 : Int32) then some (false, q1099.2, w) else (f_X8_armsOn w q1098.1 q1099.1).bind (fun q1100 => if q1100.1 < 0 then f_X8_readCommand_b156 q1099.2 v q1100.2 false else f_X8_readCommand_b156 q1099.2 v q1100.2 true))) := by
    unfold f_X8_readCommand
    rw [sign_ok hT hu (by omega) o, Option.bind_some, h1, if_pos rfl]
    show (f_X8_figures (mS u (i3 p + (1 : Int32)) o) v (0 : Int32) (2 : Int32) (1 : Int32) (20 : Int32)).bind _ = _
    rw [ep]
    rfl
  have hx1 := (h.at (p + 1)).cm 1
  unfold CmB CmG
  rw [hC, hR]
  rcases num_both (lo := 1) (hi := 20) hx1 hT hu (show p + 1 < 1000 by omega) o (show ¬ (0 : Int32) = -1 by decide) (by decide) (by decide) (by decide) with ⟨w1, l1, l2, l3, l4, l5⟩ | ⟨y, x', q, l0, l1, l2, l3⟩
  · rw [l4, l5, Option.bind_some, Option.bind_some]
    have hx2 := (hx1.at (p + 1 + 2)).fi (i3 w1)
    rcases num_both (lo := 1) (hi := 20) hx2 hT hu (show p + 1 + 2 < 1000 by omega) o (show ¬ i3 w1 = -1 from i3_m1 (by omega)) (by decide) (by decide) (by decide) with ⟨w2, j1, j2, j3, j4, j5⟩ | ⟨y, x', q, j0, j1, j2, j3⟩
    · obtain ⟨c, m, hW⟩ := hW
      obtain ⟨tb', r', k1, k2, k3⟩ := tryArms_yes hW ⟨okA_i l1 l2, okA_i j1 j2⟩
      refine Or.inr ⟨_, p + 1 + 2 + 2, true, tb', su, sc, r', ?_, (hx2.at (p + 1 + 2 + 2)).se (i3 w2), by omega, by omega, ?_, ?_, c, m, k3⟩
      · show (f_X6_readNumber (sFi (atx (sCm (atx x (i3 (p + 1))) 1) (i3 (p + 1 + 2))) (i3 w1)) (i3 1) (i3 20)).bind _ = _
        rw [j4]
        rfl
      · unfold f_X7_obeyText
        show (if (1 : Int32) = (1 : Int32) then (f_X4_tryArms tb (i3 w1) (i3 w2)).bind _ else _) = _
        rw [if_pos rfl, k1]
        rfl
      · show (f_X8_figures (mS u (i3 (p + 1 + 2)) o) v (i3 w1) (2 : Int32) (i3 1) (i3 20)).bind _ = _
        rw [j5, Option.bind_some]
        show (if i3 w2 = (-1 : Int32) then _ else (f_X8_armsOn w (i3 w1) (i3 w2)).bind _) = _
        rw [if_neg (i3_m1 (by omega)), k2, Option.bind_some]
        have hnn : ¬ (if i3 w1 = i3 w2 then (1 : Int32) else 0) < 0 := by
          by_cases hq : i3 w1 = i3 w2
          · rw [if_pos hq]; decide
          · rw [if_neg hq]; decide
        rw [if_neg hnn]
        exact b156_eq _ _ _ _ _ _
    · refine Or.inl ⟨_, q, by omega, ?_, j2.se y, ?_⟩
      · show (f_X6_readNumber (sFi (atx (sCm (atx x (i3 (p + 1))) 1) (i3 (p + 1 + 2))) (i3 w1)) (i3 1) (i3 20)).bind _ = _
        rw [j1]
        rfl
      · show (f_X8_figures (mS u (i3 (p + 1 + 2)) o) v (i3 w1) (2 : Int32) (i3 1) (i3 20)).bind _ = _
        rw [j3, Option.bind_some]
        exact if_pos rfl
  · rw [l1, l3, Option.bind_some, Option.bind_some]
    obtain ⟨z, x2, t1, t2⟩ := num_wr (l2.fi y) (lo := 1) (by decide) (i3 20)
    refine Or.inl ⟨_, q, by omega, ?_, t2.se z, ?_⟩
    · show (f_X6_readNumber (sFi x' y) (i3 1) (i3 20)).bind _ = _
      rw [t1]
      rfl
    · show (f_X8_figures (mS u (i3 q) o) v (-1 : Int32) (2 : Int32) (i3 1) (i3 20)).bind _ = _
      rw [fig_ahead, Option.bind_some]
      exact if_pos rfl
theorem tcmd_both {n p : Nat} {S v w : Fn} {x : TXv} {u : MOv} {tb : TBv} {su : Fn} (h : TXs n p false S x) (hT : TxR n S v) (hu : u.2.1 = i3 n) (hpn : p < n) (o : Int32) (hW : TabX tb su w) (sc : SCv) : CmB n p S v x u o w ∨ CmG n p S v x u o w tb su sc := by
  have hn := hT.1
  by_cases h1 : sg n S p = (119 : Int32)
  · exact tcmd_w h hT hu hpn o hW sc h1
  · by_cases h2 : sg n S p = (97 : Int32)
    · exact tcmd_a h hT hu hpn o hW sc h2
    · obtain ⟨x', t1, t2⟩ := rc_none h hT (by omega) h1 h2
      refine Or.inl ⟨x', p, by omega, t1, t2, ?_⟩
      unfold f_X8_readCommand
      rw [sign_ok hT hu (by omega) o, Option.bind_some, if_neg h2, if_neg h1]
