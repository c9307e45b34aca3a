/-! ===== the whole text ===== -/
theorem ep_wr {n p N : Nat} {S : Fn} {x : TXv} (h : TXs n p true S x) (y : Int32) : itl f_X7_errorPosition_B9 (N + 1) (y, x) = some x := by
  show (f_X7_errorPosition_B9 (y, x)).bind _ = _
  unfold f_X7_errorPosition_B9
  by_cases h1 : (120 : Int32) ≤ y
  · rw [if_pos h1]
    rfl
  · rw [if_neg h1, more_wr h, Option.bind_some, if_pos bfF]
    rfl
theorem ep_end {n N : Nat} {S : Fn} {x : TXv} (h : TXs n n false S x) (hn : n ≤ 120) (y : Int32) : itl f_X7_errorPosition_B9 (N + 1) (y, x) = some x := by
  show (f_X7_errorPosition_B9 (y, x)).bind _ = _
  unfold f_X7_errorPosition_B9
  by_cases h1 : (120 : Int32) ≤ y
  · rw [if_pos h1]
    rfl
  · rw [if_neg h1, more_ok h hn (by omega), Option.bind_some, decide_eq_false (Nat.lt_irrefl n), if_pos bfF]
    rfl
theorem rt_end {n N : Nat} {v : Fn} {u : MOv} (hu : u.2.1 = i3 n) (hn : n ≤ 120) (o : Int32) (w : Fn) : itl (f_X8_readText_B43 v) (N + 1) (mS u (i3 n) o, w) = some (.inr (mS u (i3 n) o, w)) := by
  show (f_X8_readText_B43 v (mS u (i3 n) o, w)).bind _ = _
  unfold f_X8_readText_B43
  show ((if u.2.1 ≤ i3 n then _ else _ : Option ((MOv × Fn) ⊕ ((MOv × Fn) ⊕ (MOv × Fn))))).bind _ = _
  rw [hu, if_pos ((i3_le (by omega) (by omega)).mpr (Nat.le_refl n))]
  rfl
theorem rt_go {n p N : Nat} {v : Fn} {u : MOv} (hu : u.2.1 = i3 n) (hn : n ≤ 120) (hpn : p < n) (o : Int32) (w : Fn) : itl (f_X8_readText_B43 v) (N + 1) (mS u (i3 p) o, w) = ((f_X8_readCommand (mS u (i3 p) o) v w).bind (fun q1145 => if (b2i q1145.1) = 0 then some (.inr (.inl (q1145.2.1, q1145.2.2))) else some (.inl (q1145.2.1, q1145.2.2)))).bind (Sum.elim (itl (f_X8_readText_B43 v) N) some) := by
  have hne : ¬ u.2.1 ≤ i3 p := by rw [hu, i3_le (by omega) (by omega)]; omega
  have e : f_X8_readText_B43 v (mS u (i3 p) o, w) = (f_X8_readCommand (mS u (i3 p) o) v w).bind (fun q1145 => if (b2i q1145.1) = 0 then some (.inr (.inl (q1145.2.1, q1145.2.2))) else some (.inl (q1145.2.1, q1145.2.2))) := by
    unfold f_X8_readText_B43
    exact if_neg hne
  show (f_X8_readText_B43 v (mS u (i3 p) o, w)).bind _ = _
  rw [e]
theorem e_loop {n : Nat} {S v : Fn} {u : MOv} (hT : TxR n S v) (hu : u.2.1 = i3 n) : ∀ (d p i : Nat) (o : Int32) (x : TXv) (w : Fn) (tb : TBv) (su : Fn) (N M : Nat), n - p ≤ d → p ≤ n → i ≤ p → d + 2 ≤ N → d + 1 ≤ M → TXs n p false S x → TabX tb su w → ∃ e1 e2, itl f_X7_errorPosition_B9 N (i3 i, x) = some e1 ∧ itl (f_X8_readText_B43 v) M (mS u (i3 p) o, w) = some e2 ∧ ((∃ q o' w', q < 2000 ∧ TXs n q true S e1 ∧ e2 = .inl (mS u (i3 q) o', w')) ∨ (∃ q o' w', TXs n q false S e1 ∧ e2 = .inr (mS u (i3 q) o', w'))) := by
  have hn := hT.1
  intro d
  induction d with
  | zero =>
    intro p i o x w tb su N M h1 h2 h3 h4 h5 hx hW
    have hp : p = n := by omega
    subst hp
    obtain ⟨N, rfl⟩ : ∃ N', N = N' + 1 := ⟨N - 1, by omega⟩
    obtain ⟨M, rfl⟩ : ∃ M', M = M' + 1 := ⟨M - 1, by omega⟩
    exact ⟨x, _, ep_end hx hn _, rt_end hu hn o w, Or.inr ⟨p, o, w, hx, rfl⟩⟩
  | succ d ih =>
    intro p i o x w tb su N M h1 h2 h3 h4 h5 hx hW
    obtain ⟨N, rfl⟩ : ∃ N', N = N' + 1 := ⟨N - 1, by omega⟩
    obtain ⟨M, rfl⟩ : ∃ M', M = M' + 1 := ⟨M - 1, by omega⟩
    by_cases hpn : p = n
    · subst hpn
      exact ⟨x, _, ep_end hx hn _, rt_end hu hn o w, Or.inr ⟨p, o, w, hx, rfl⟩⟩
    · have hlt : p < n := by omega
      rw [rt_go hu hn hlt]
      have hC : ∀ x', f_X6_readCommand x = some x' → itl f_X7_errorPosition_B9 (N + 1) (i3 i, x) = itl f_X7_errorPosition_B9 N (i3 (i + 1), x') := fun x' hx' => by
        show (f_X7_errorPosition_B9 (i3 i, x)).bind _ = _
        have e : f_X7_errorPosition_B9 (i3 i, x) = some (.inl (i3 (i + 1), x')) := by
          unfold f_X7_errorPosition_B9
          rw [if_neg (by show ¬ i3 120 ≤ i3 i; rw [i3_le (by decide) (by omega)]; omega), more_ok hx hn (by omega), Option.bind_some, decide_eq_true hlt, if_neg bfT, hx', Option.bind_some]
          exact congrArg (fun z => some (Sum.inl (z, x'))) (i3_add i 1)
        rw [e]
        rfl
      rcases tcmd_both hx hT hu hlt o hW (0, 0, 0, 0, 0, 0) with ⟨x', q, q0, k1, k2, k3⟩ | ⟨x', q, dd, tb', su', sc', w', k1, k2, k3, k4, -, k5, k6⟩
      · rw [hC x' k1, k3, Option.bind_some, if_pos bfF]
        obtain ⟨N, rfl⟩ : ∃ N', N = N' + 1 := ⟨N - 1, by omega⟩
        exact ⟨x', _, ep_wr k2 _, rfl, Or.inl ⟨q, o, w, q0, k2, rfl⟩⟩
      · rw [hC x' k1, k5, Option.bind_some, if_neg bfT]
        exact ih q (i + 1) _ x' w' tb' su' N M (by omega) k4 (by omega) (by omega) (by omega) k2 k6
theorem l_end {n N : Nat} {S : Fn} {x : TXv} (h : TXs n n false S x) (hn : n ≤ 120) (vh : HIv) (v7 v10 o y : Int32) (tb : TBv) (su : Fn) (sc : SCv) : itl (f_X7_load_B80 vh v7 v10) (N + 1) (o, y, x, tb, su, sc) = some (o, x, tb, su, sc) := by
  show (f_X7_load_B80 vh v7 v10 (o, y, x, tb, su, sc)).bind _ = _
  unfold f_X7_load_B80
  by_cases h1 : (120 : Int32) ≤ y
  · rw [if_pos h1]
    rfl
  · rw [if_neg h1, more_ok h hn (by omega), Option.bind_some, decide_eq_false (Nat.lt_irrefl n), if_pos bfF]
    rfl
theorem l_loop {n : Nat} {S v : Fn} {u : MOv} (hT : TxR n S v) (hu : u.2.1 = i3 n) (vh : HIv) (v7 v10 : Int32) : ∀ (d p i : Nat) (o : Int32) (x : TXv) (w : Fn) (tb : TBv) (su : Fn) (sc : SCv) (N M : Nat) (e2 : MOv × Fn), n - p ≤ d → p ≤ n → i ≤ p → d + 2 ≤ N → d + 1 ≤ M → TXs n p false S x → TabX tb su w → itl (f_X8_readText_B43 v) M (mS u (i3 p) o, w) = some (.inr e2) → ∃ e1 q, itl (f_X7_load_B80 vh v7 v10) N (o, i3 i, x, tb, su, sc) = some e1 ∧ e2.1 = mS u (i3 q) e1.1 ∧ TXs n q false S e1.2.1 ∧ TabX e1.2.2.1 e1.2.2.2.1 e2.2 := by
  have hn := hT.1
  intro d
  induction d with
  | zero =>
    intro p i o x w tb su sc N M e2 h1 h2 h3 h4 h5 hx hW he
    have hp : p = n := by omega
    subst hp
    obtain ⟨N, rfl⟩ : ∃ N', N = N' + 1 := ⟨N - 1, by omega⟩
    obtain ⟨M, rfl⟩ : ∃ M', M = M' + 1 := ⟨M - 1, by omega⟩
    rw [rt_end hu hn o w] at he
    have he := Sum.inr.inj (Option.some.inj he)
    subst he
    exact ⟨_, p, l_end hx hn vh v7 v10 o _ tb su sc, rfl, hx, hW⟩
  | succ d ih =>
    intro p i o x w tb su sc N M e2 h1 h2 h3 h4 h5 hx hW he
    obtain ⟨N, rfl⟩ : ∃ N', N = N' + 1 := ⟨N - 1, by omega⟩
    obtain ⟨M, rfl⟩ : ∃ M', M = M' + 1 := ⟨M - 1, by omega⟩
    by_cases hpn : p = n
    · subst hpn
      rw [rt_end hu hn o w] at he
      have he := Sum.inr.inj (Option.some.inj he)
      subst he
      exact ⟨_, p, l_end hx hn vh v7 v10 o _ tb su sc, rfl, hx, hW⟩
    · have hlt : p < n := by omega
      rw [rt_go hu hn hlt] at he
      rcases tcmd_both hx hT hu hlt o hW sc with ⟨x', q, q0, k1, k2, k3⟩ | ⟨x', q, dd, tb', su', sc', w', k1, k2, k3, k4, k7, k5, k6⟩
      · rw [k3, Option.bind_some, if_pos bfF] at he
        exact nomatch (Option.some.inj he)
      · rw [k5, Option.bind_some, if_neg bfT] at he
        have e : f_X7_load_B80 vh v7 v10 (o, i3 i, x, tb, su, sc) = some (.inl (o + b2i (!dd), i3 (i + 1), x', tb', su', sc')) := by
          have ei : i3 i + (1 : Int32) = i3 (i + 1) := i3_add i 1
          unfold f_X7_load_B80 f_X7_load_B80_b113
          rw [if_neg (by show ¬ i3 120 ≤ i3 i; rw [i3_le (by decide) (by omega)]; omega), more_ok hx hn (by omega), Option.bind_some, decide_eq_true hlt, if_neg bfT, k1, Option.bind_some, k7, Option.bind_some, ei]
          cases dd
          · rw [if_pos bfF]
            rfl
          · rw [if_neg bfT]
            show _ = some (Sum.inl (o + b2i false, i3 (i + 1), x', tb', su', sc'))
            rw [add_f]
        obtain ⟨e1, q', z1, z2⟩ := ih q (i + 1) _ x' w' tb' su' sc' N M e2 (by omega) k4 (by omega) (by omega) (by omega) k2 k6 he
        refine ⟨e1, q', ?_, z2⟩
        show (f_X7_load_B80 vh v7 v10 (o, i3 i, x, tb, su, sc)).bind _ = _
        rw [e]
        exact z1
theorem rt_un {n : Nat} {S v w w1 : Fn} {u : MOv} (hT : TxR n S v) (hu : u.2.1 = i3 n) (hw : f_X8_clear w = some w1) : f_X8_readText u v w = if sg n S 0 = (80 : Int32) then (f_X8_readCase (mS u (i3 1) 0) v w1).bind (fun q1144 => if (b2i q1144.1) = 0 then some (q1144.2.1.2.2.2.2.1, q1144.2.1, q1144.2.2) else (itl (f_X8_readText_B43 v) FU (q1144.2.1, q1144.2.2)).bind (Sum.elim (fun q1148e => some (q1148e.1.2.2.2.2.1, q1148e.1, q1148e.2)) (fun q1148e => some ((-1 : Int32), q1148e.1, q1148e.2)))) else some ((0 : Int32), mS u (i3 0) 0, w1) := by
  unfold f_X8_readText
  rw [hw, Option.bind_some]
  show (f_X8_sign (mS u (i3 0) 0) v).bind _ = _
  rw [sign_ok hT hu (by decide) 0, Option.bind_some]
  rfl
theorem b38_wr {n p : Nat} {S : Fn} {x : TXv} (h : TXs n p true S x) : f_X7_errorPosition_b38 x = some (i3 p, x) := by
  unfold f_X7_errorPosition_b38
  rw [h.2.2.1, if_neg bfT, h.2.1]
theorem b38_ok {n p : Nat} {S : Fn} {x : TXv} (h : TXs n p false S x) : f_X7_errorPosition_b38 x = some ((-1 : Int32), x) := by
  unfold f_X7_errorPosition_b38
  rw [h.2.2.1, if_pos bfF]
def uSame (u' u : MOv) : Prop := u'.1 = u.1 ∧ u'.2.1 = u.2.1 ∧ u'.2.2.1 = u.2.2.1
theorem text_E {n : Nat} {S v w : Fn} {x : TXv} {u : MOv} (hx1 : x.1 = i3 n) (hxS : tS x = S) (hT : TxR n S v) (hu : u.2.1 = i3 n) : ∃ pos x' u' w', f_X7_errorPosition x = some (pos, x') ∧ f_X8_readText u v w = some (pos, u', w') ∧ x'.1 = i3 n ∧ tS x' = S ∧ uSame u' u := by
  have hn := hT.1
  obtain ⟨tb0, su0, w1, -, r2, r3⟩ := reset_eq (0, 0, 0, 0, 0, 0, 0, fun _ => 0) (fun _ => 0) w
  have hR := rt_un hT hu r2
  have hE : ∀ x', f_X6_readHead x = some x' → f_X7_errorPosition x = (itl f_X7_errorPosition_B9 FU (i3 0, x')).bind (fun q => f_X7_errorPosition_b38 q) := fun x' hx' => by
    unfold f_X7_errorPosition
    rw [hx', Option.bind_some]
    rfl
  rcases head_both hx1 hxS hT hu 0 with ⟨h80, x', k1, k2⟩ | ⟨h80, x', q, q0, k1, k2, k3⟩ | ⟨h80, x', c, hh, k1, k2, k3, k4, k5, k6, k7, k8⟩
  · rw [if_neg h80] at hR
    refine ⟨i3 0, x', _, _, ?_, hR, k2.1, k2.2.2.2, rfl, rfl, rfl⟩
    rw [hE x' k1, show itl f_X7_errorPosition_B9 FU (i3 0, x') = some x' from ep_wr (N := 5999) k2 (i3 0), Option.bind_some, b38_wr k2]
  · rw [if_pos h80, k3, Option.bind_some, if_pos bfF] at hR
    refine ⟨i3 q, x', _, _, ?_, hR, k2.1, k2.2.2.2, rfl, rfl, rfl⟩
    rw [hE x' k1, show itl f_X7_errorPosition_B9 FU (i3 0, x') = some x' from ep_wr (N := 5999) k2 (i3 0), Option.bind_some, b38_wr k2]
  · obtain ⟨tb1, su1, w2, l1, l2, l3, -⟩ := layOut_eq r3 k4 k5
    rw [if_pos h80, k8, l2, Option.bind_some, Option.bind_some, if_neg bfT] at hR
    obtain ⟨e1, e2, m1, m2, m3⟩ := e_loop hT hu n 7 0 0 x' w2 tb1 su1 FU FU (by omega) k3 (by decide) (by unfold FU; omega) (by unfold FU; omega) k2 ⟨c, 0, l3⟩
    rw [m2, Option.bind_some] at hR
    rcases m3 with ⟨q, o', w', q0, z1, rfl⟩ | ⟨q, o', w', z1, rfl⟩
    · refine ⟨i3 q, e1, _, _, ?_, hR, z1.1, z1.2.2.2, rfl, rfl, rfl⟩
      rw [hE x' k1, m1, Option.bind_some, b38_wr z1]
    · refine ⟨-1, e1, _, _, ?_, hR, z1.1, z1.2.2.2, rfl, rfl, rfl⟩
      rw [hE x' k1, m1, Option.bind_some, b38_ok z1]
theorem text_L {n : Nat} {S v w w' : Fn} {x : TXv} {u u' : MOv} (hx1 : x.1 = i3 n) (hxS : tS x = S) (hT : TxR n S v) (hu : u.2.1 = i3 n) (hr : f_X8_readText u v w = some ((-1 : Int32), u', w')) (v1 : TBv) (v2 : Fn) (sc : SCv) (vh : HIv) (v7 v10 : Int32) : ∃ t0 x1 t1 e1, f_X4_reset v1 v2 = some t0 ∧ f_X6_readHead x = some x1 ∧ f_X4_layOut t0.1 t0.2 x1.2.2.2.1 x1.2.2.2.2.1 = some t1 ∧ itl (f_X7_load_B80 vh v7 v10) FU ((0 : Int32), (0 : Int32), x1, t1.1, t1.2, sc) = some e1 ∧ e1.1 = u'.2.2.2.2.2 ∧ e1.2.1.1 = i3 n ∧ tS e1.2.1 = S ∧ TabX e1.2.2.1 e1.2.2.2.1 w' := by
  have hn := hT.1
  obtain ⟨tb0, su0, w1, r1, r2, r3⟩ := reset_eq v1 v2 w
  have hR := rt_un hT hu r2
  rw [hr] at hR
  rcases head_both hx1 hxS hT hu 0 with ⟨h80, x', k1, k2⟩ | ⟨h80, x', q, q0, k1, k2, k3⟩ | ⟨h80, x', c, hh, k1, k2, k3, k4, k5, k6, k7, k8⟩
  · rw [if_neg h80] at hR
    have h1 : (-1 : Int32) = 0 := congrArg Prod.fst (Option.some.inj hR)
    exact absurd h1 (by decide)
  · rw [if_pos h80, k3, Option.bind_some, if_pos bfF] at hR
    have h1 : (-1 : Int32) = i3 q := congrArg Prod.fst (Option.some.inj hR)
    exact absurd h1.symm (i3_m1 (by omega))
  · obtain ⟨tb1, su1, w2, l1, l2, l3, -⟩ := layOut_eq r3 k4 k5
    rw [if_pos h80, k8, l2, Option.bind_some, Option.bind_some, if_neg bfT] at hR
    obtain ⟨e1, e2, m1, m2, m3⟩ := e_loop hT hu n 7 0 0 x' w2 tb1 su1 FU FU (by omega) k3 (by decide) (by unfold FU; omega) (by unfold FU; omega) k2 ⟨c, 0, l3⟩
    rw [m2, Option.bind_some] at hR
    rcases m3 with ⟨q, o', w3, q0, z1, rfl⟩ | ⟨q, o', w3, z1, rfl⟩
    · have h1 : (-1 : Int32) = i3 q := congrArg Prod.fst (Option.some.inj hR)
      exact absurd h1.symm (i3_m1 (by omega))
    · have h2 := Option.some.inj hR
      have h3 : u' = mS u (i3 q) o' := congrArg (fun z => z.2.1) h2
      have h4 : w' = w3 := congrArg (fun z => z.2.2) h2
      subst h3
      subst h4
      obtain ⟨e1', q', y1, y2, y3, y4⟩ := l_loop hT hu vh v7 v10 n 7 0 0 x' w2 tb1 su1 sc FU FU _ (by omega) k3 (by decide) (by unfold FU; omega) (by unfold FU; omega) k2 ⟨c, 0, l3⟩ m2
      refine ⟨(tb0, su0), x', (tb1, su1), e1', r1, k1, ?_, y1, ?_, y3.1, y3.2.2.2, y4⟩
      · rw [k6, k7]
        exact l1
      · exact (congrArg (fun z : MOv => z.2.2.2.2.2) y2).symm
