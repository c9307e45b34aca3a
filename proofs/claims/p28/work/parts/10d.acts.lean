/-! ===== acts and their undo, told plainly ===== -/
/-- the row that is remembered last; the last two -/
def St1 (z : RS) (r0 : Fn) : Prop := ∃ k, z.1 = i3 k ∧ 1 ≤ k ∧ k ≤ 14 ∧ ∀ t, t < 107 → z.2.2.1 (107 * (k - 1) + t) = r0 t
def St2 (z : RS) (r0 r1 : Fn) : Prop := ∃ k, z.1 = i3 k ∧ 2 ≤ k ∧ k ≤ 14 ∧ (∀ t, t < 107 → z.2.2.1 (107 * (k - 1) + t) = r0 t) ∧ ∀ t, t < 107 → z.2.2.1 (107 * (k - 2) + t) = r1 t
theorem RelO.acts {v : OBv} {z : RS} (h : RelO v z) : ∃ k, k ≤ 14 ∧ z.1 = i3 k := by
  obtain ⟨nx, k, -, h1, h2⟩ := h.2.1
  exact ⟨k, h2.2.1, h1⟩
theorem rem_x {u : MOv} {r d : Fn} {k : Nat} (hu : u.2.2.1 = i3 k) (hk : k ≤ 14) : ∃ k' d', f_X8_remember u r d = some (mA u (i3 k'), d') ∧ 1 ≤ k' ∧ k' ≤ 14 ∧ (∀ t, t < 107 → d' (107 * (k' - 1) + t) = r t) ∧ (1 ≤ k → 2 ≤ k' ∧ ∀ t, t < 107 → d' (107 * (k' - 2) + t) = d (107 * (k - 1) + t)) := by
  have q14 : (i3 k = (14 : Int32)) ↔ k = 14 := i3_eq (by omega) (by decide : 14 < 2 ^ 31)
  by_cases hk14 : k = 14
  · subst hk14
    refine ⟨14, cpR r (fun t => if t < 1391 then d (t + 107) else d t) 0 (107 * 13) 107, ?_, by decide, by decide, fun t ht => ?_, fun _ => ⟨by decide, fun t ht => ?_⟩⟩
    · unfold f_X8_remember
      rw [hu, if_pos (show i3 14 = (14 : Int32) from rfl), rem_shift, Option.bind_some]
      have e13 : i3 14 - (1 : Int32) = i3 13 := i3_sub (a := 14) (b := 1) (by decide)
      rw [e13]
      exact rem49 (u := (u.1, u.2.1, i3 13, u.2.2.2.1, u.2.2.2.2.1, u.2.2.2.2.2)) (k := 13) rfl (by decide)
    · unfold cpR
      rw [if_pos (by omega)]
      exact congrArg r (by omega)
    · unfold cpR
      rw [if_neg (by omega)]
      show (if 107 * (14 - 2) + t < 1391 then d (107 * (14 - 2) + t + 107) else _) = _
      rw [if_pos (by omega)]
      exact congrArg d (by omega)
  · refine ⟨k + 1, cpR r d 0 (107 * k) 107, ?_, by omega, by omega, fun t ht => ?_, fun h1 => ⟨by omega, fun t ht => ?_⟩⟩
    · unfold f_X8_remember
      rw [hu, if_neg (fun z => hk14 (q14.mp z))]
      exact rem49 hu (by omega)
    · unfold cpR
      rw [if_pos (by omega)]
      exact congrArg r (by omega)
    · unfold cpR
      rw [if_neg (by omega)]
      exact congrArg d (by omega)
theorem st1_of {u : MOv} {r d d' : Fn} {k' : Nat} {w : Fn × Fn} {r' : Fn} (h1 : 1 ≤ k') (h2 : k' ≤ 14) (h3 : ∀ t, t < 107 → d' (107 * (k' - 1) + t) = r t) : St1 (i3 k', r', d', w) r := ⟨k', rfl, h1, h2, h3⟩
theorem do_arms {z : RS} {k : Nat} {x y : Int32} (hk : z.1 = i3 k) (hk14 : k ≤ 14) (hx : okA x ∧ okA y) (c' : Int32) : ∃ z', rc7 z x y c' = some (if x = y then (1 : Int32) else 0, z') ∧ z'.2.1 = upd (upd z.2.1 2 x) 3 y ∧ St1 z' z.2.1 ∧ ∀ r1, St1 z r1 → St2 z' z.2.1 r1 := by
  obtain ⟨b, e1, e2⟩ := isArms_eq x y
  have hb : b = true := e2.mpr hx
  subst hb
  obtain ⟨k', d', m1, m2, m3, m4, m5⟩ := rem_x (u := mK (uZ z.1) 0) (r := z.2.1) (d := z.2.2.1) hk hk14
  have n2 : (2 : Int32).toNatClampNeg = 2 := by decide
  have n3 : (3 : Int32).toNatClampNeg = 3 := by decide
  have k2 : f_X8_armsOn z.2.1 x y = some (if x = y then (1 : Int32) else 0, upd (upd z.2.1 2 x) 3 y) := by
    unfold f_X8_armsOn
    rw [n2, n3]
    by_cases e : x = y
    · rw [if_pos e, if_pos e]
    · rw [if_neg e, if_neg e]
  have E : f_X8_arms (uZ z.1) z.2.1 z.2.2.1 x y = some (if x = y then (1 : Int32) else 0, mA (mK (uZ z.1) 0) (i3 k'), upd (upd z.2.1 2 x) 3 y, d') := by
    unfold f_X8_arms f_X8_arms_b14
    rw [e1, Option.bind_some, if_neg bfT, refuse_no' _, Option.bind_some, if_pos bfF]
    show (f_X8_remember (mK (uZ z.1) 0) z.2.1 z.2.2.1).bind _ = _
    rw [m1, Option.bind_some, k2, Option.bind_some]
  refine ⟨(i3 k', upd (upd z.2.1 2 x) 3 y, d', z.2.2.2), ?_, rfl, ⟨k', rfl, m2, m3, m4⟩, fun r1 h => ?_⟩
  · unfold rc7
    rw [E]
    rfl
  · obtain ⟨k0, q1, q2, q3, q4⟩ := h
    have e0 : k0 = k := (i3_eq (by omega) (by omega)).mp (q1.symm.trans hk)
    subst e0
    obtain ⟨p1, p2⟩ := m5 q2
    exact ⟨k', rfl, p1, m3, m4, fun t ht => (p2 t ht).trans (q4 t ht)⟩
theorem do_weigh {z : RS} {c m k : Nat} {a b : Int32} (hz : ZC z c m) (hk : z.1 = i3 k) (hk14 : k ≤ 14) (hw : WS c a b) (hm : m < 20) (c' : Int32) : ∃ z' h, h < nC c ∧ PR z.2.1 c m h = true ∧ rc8 z a b c' = some (oc a b (z.2.1 2) (z.2.1 3) h, z') ∧ z'.2.1 = wRow z.2.1 m a b (oc a b (z.2.1 2) (z.2.1 3) h) ∧ St1 z' z.2.1 := by
  obtain ⟨h, hh, hr1, hP⟩ := hz.hid
  obtain ⟨tb, su, T⟩ := hz
  have hc : c < 13 := by have := T.1.1.2; omega
  have h75 := nC_lt hc
  obtain ⟨d, e1, -, e3⟩ := refuse_sets T a b
  have hd : d = true := e3.mpr hw
  subst hd
  obtain ⟨b2, q1, q2⟩ := canWR_eq T a b
  have hb2 : b2 = true := q2.mpr ⟨hw, hm⟩
  subst hb2
  obtain ⟨k', d', m1, m2, m3, m4, m5⟩ := rem_x (u := mK (uZ z.1) 0) (r := z.2.1) (d := z.2.2.1) hk hk14
  have hW := weighOn_eq T.1.2.2.2.2 hm hr1 (show h < 78 by omega) (hw.1.b12 hc) (hw.2.1.b12 hc)
  have E : f_X8_weigh (uZ z.1) z.2.1 z.2.2.1 a b = some (oc a b (z.2.1 2) (z.2.1 3) h, mA (mK (uZ z.1) 0) (i3 k'), wRow z.2.1 m a b (oc a b (z.2.1 2) (z.2.1 3) h), d') := by
    unfold f_X8_weigh f_X8_weigh_b34
    rw [e1, Option.bind_some, if_neg bfT, q1, Option.bind_some, if_neg bfT, refuse_no _, Option.bind_some, if_pos bfF]
    show (f_X8_remember (mK (uZ z.1) 0) z.2.1 z.2.2.1).bind _ = _
    rw [m1, Option.bind_some, hW, Option.bind_some]
  refine ⟨(i3 k', wRow z.2.1 m a b (oc a b (z.2.1 2) (z.2.1 3) h), d', z.2.2.2), h, hh, hP, ?_, rfl, ⟨k', rfl, m2, m3, m4⟩⟩
  unfold rc8
  rw [E]
  rfl
theorem do_undo {z : RS} {r0 : Fn} (h : St1 z r0) (a b c : Int32) : ∃ k z', k ≤ 14 ∧ rc11 z a b c = some (i3 k, z') ∧ (∀ t, t < 107 → z'.2.1 t = r0 t) ∧ ∀ r1, St2 z r0 r1 → St1 z' r1 := by
  obtain ⟨k, hu, h1, h2, h3⟩ := h
  have q0 : (i3 k = 0) ↔ k = 0 := i3_eq (by omega) (by decide : 0 < 2 ^ 31)
  have e1 : i3 k - (1 : Int32) = i3 (k - 1) := i3_sub (a := k) (b := 1) (by omega)
  have e2 : (107 : Int32) * i3 (k - 1) = i3 (107 * (k - 1)) := i3_mul 107 (k - 1)
  have hu' : (uZ z.1).2.2.1 = i3 k := hu
  have E : f_X8_undo (uZ z.1) z.2.1 z.2.2.1 = some (i3 (k - 1), mA (mK (uZ z.1) 0) (i3 (k - 1)), cpR z.2.2.1 z.2.1 (107 * (k - 1)) 0 107) := by
    unfold f_X8_undo f_X8_undo_b13
    rw [hu', if_neg (fun z => by have := q0.mp z; omega), refuseB, Option.bind_some, if_pos bfF]
    show (f_X8_copyState 1498 107 z.2.2.1 z.2.1 ((107 : Int32) * ((uZ z.1).2.2.1 - (1 : Int32))) (0 : Int32)).bind _ = _
    rw [hu', e1, e2]
    have hc : f_X8_copyState 1498 107 z.2.2.1 z.2.1 (i3 (107 * (k - 1))) (0 : Int32) = _ := copyR_eq (p := 107 * (k - 1)) (q := 0) (by omega) (by decide) (by decide) (by decide)
    rw [hc, Option.bind_some]
    rfl
  refine ⟨k - 1, (i3 (k - 1), cpR z.2.2.1 z.2.1 (107 * (k - 1)) 0 107, z.2.2), by omega, ?_, fun t ht => ?_, fun r1 h9 => ?_⟩
  · unfold rc11
    rw [E]
    rfl
  · show cpR z.2.2.1 z.2.1 (107 * (k - 1)) 0 107 t = r0 t
    unfold cpR
    rw [if_pos (by omega)]
    exact h3 t ht
  · obtain ⟨k2, p1, p2, p3, p4, p5⟩ := h9
    have e0 : k2 = k := (i3_eq (by omega) (by omega)).mp (p1.symm.trans hu)
    subst e0
    exact ⟨k2 - 1, rfl, by omega, by omega, fun t ht => p5 t ht⟩
/-! c and m behind an act -/
theorem ZC.of {v : OBv} {z : RS} {c m : Nat} (h : RelO v z) (h0 : z.2.1 0 = i3 c) (h4 : z.2.1 4 = i3 m) (hc : c ≤ 12) (hm : m ≤ 20) : ZC z c m := by
  obtain ⟨c', m', T⟩ := h.1
  have a1 := T.1.1.2
  have b1 := T.1.2.1
  have e1 : c' = c := (i3_eq (by omega) (by omega)).mp (T.1.2.2.2.1.symm.trans h0)
  have e2 : m' = m := (i3_eq (by omega) (by omega)).mp (T.1.2.2.2.2.symm.trans h4)
  subst e1
  subst e2
  exact ⟨_, _, T⟩
theorem ZC.r0 {z : RS} {c m : Nat} (h : ZC z c m) : z.2.1 0 = i3 c := by
  obtain ⟨tb, su, T⟩ := h
  exact T.1.2.2.2.1
theorem ZC.r4 {z : RS} {c m : Nat} (h : ZC z c m) : z.2.1 4 = i3 m := by
  obtain ⟨tb, su, T⟩ := h
  exact T.1.2.2.2.2
theorem ZC.ext {z z' : RS} {c m : Nat} (h : ZC z c m) (e : ∀ t, t < 107 → z'.2.1 t = z.2.1 t) : ZC z' c m := by
  obtain ⟨tb, su, T⟩ := h
  exact ⟨tb, su, T.ext e⟩
theorem ZC.PR {z z' : RS} {c m : Nat} (h : ZC z c m) (e : ∀ t, 7 ≤ t → t < 107 → z'.2.1 t = z.2.1 t) : PR z'.2.1 c m = PR z.2.1 c m := by
  have := h.c
  exact PR_cong (fun i hi j hj => e _ (by omega) (by omega))
/-! how many cases each outcome has -/
theorem sm_add3 (f g h : Nat → Nat) : ∀ n, sm f n + sm g n + sm h n = sm (fun k => f k + g k + h k) n := by
  intro n
  induction n with
  | zero => rfl
  | succ n ih =>
    show (sm f n + f n) + (sm g n + g n) + (sm h n + h n) = sm (fun k => f k + g k + h k) n + (f n + g n + h n)
    rw [← ih]
    omega
theorem cn_sum (P : Nat → Bool) (a b la ra : Int32) : cn P a b la ra 0 + cn P a b la ra 1 + cn P a b la ra 2 = nP P := by
  unfold cn nP
  rw [sm_add3]
  refine sm_cong (fun k _ => ?_)
  have h := oc_le a b la ra k
  cases P k
  · rfl
  · rcases h with z | z | z <;> rw [z] <;> decide
/-! the sharpest weighing -/
def rcSh (z : RS) : Option Int32 := (f_X8_sharpest (uZ z.1) z.2.1 Z0 Z0).bind (fun q => some q.1)
theorem call_sh {v : OBv} {z : RS} {c m : Nat} (h : RelO v z) (hz : ZC z c m) : ∃ b s t, f_X7_sharpest v.2.1 v.2.2.1 v.2.2.2.1 v.2.2.2.2.2.2.2.2.2.2.2.2.2.2.2.1 = some (b, s, t) ∧ rcSh z = some b ∧ (nP (PR z.2.1 c m) ≤ 1 → b = -1) ∧ RelO (v.1, v.2.1, v.2.2.1, s, v.2.2.2.2.1, v.2.2.2.2.2.1, v.2.2.2.2.2.2.1, v.2.2.2.2.2.2.2.1, v.2.2.2.2.2.2.2.2.1, v.2.2.2.2.2.2.2.2.2.1, v.2.2.2.2.2.2.2.2.2.2.1, v.2.2.2.2.2.2.2.2.2.2.2.1, v.2.2.2.2.2.2.2.2.2.2.2.2.1, v.2.2.2.2.2.2.2.2.2.2.2.2.2.1, v.2.2.2.2.2.2.2.2.2.2.2.2.2.2.1, t, v.2.2.2.2.2.2.2.2.2.2.2.2.2.2.2.2.1, v.2.2.2.2.2.2.2.2.2.2.2.2.2.2.2.2.2) z := by
  have T := h.tab hz
  obtain ⟨hT, hH, hS, hL1, hL2⟩ := h
  obtain ⟨b, s, t, u', u7', u8', E1, E2, -, hn⟩ := sharpest_askZ T v.2.2.2.1 v.2.2.2.2.2.2.2.2.2.2.2.2.2.2.2.1 (uZ z.1) Z0 Z0
  refine ⟨b, s, t, E1, ?_, fun h1 => hn (fun a b => ?_), ⟨hT, hH, hS, hL1, hL2⟩⟩
  · unfold rcSh
    rw [E2]
    rfl
  · have hs := cn_sum (PR z.2.1 c m) a b (z.2.1 2) (z.2.1 3)
    unfold prs
    generalize cn (PR z.2.1 c m) a b (z.2.1 2) (z.2.1 3) 0 = n0 at hs ⊢
    generalize cn (PR z.2.1 c m) a b (z.2.1 2) (z.2.1 3) 1 = n1 at hs ⊢
    generalize cn (PR z.2.1 c m) a b (z.2.1 2) (z.2.1 3) 2 = n2 at hs ⊢
    have h3 : (n0 = 0 ∧ n1 = 0) ∨ (n0 = 0 ∧ n2 = 0) ∨ (n1 = 0 ∧ n2 = 0) := by omega
    rcases h3 with ⟨rfl, rfl⟩ | ⟨rfl, rfl⟩ | ⟨rfl, rfl⟩ <;> exact congrArg i3 (by simp)
