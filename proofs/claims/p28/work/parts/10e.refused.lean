/-! ===== calls that are refused change nothing ===== -/
theorem out_lt {x lo hi : Int32} (h : x < lo) : ¬ (lo ≤ x ∧ x ≤ hi) := fun z => (lt_iff _ _).mpr z.1 h
theorem out_gt {x lo hi : Int32} (h : hi < x) : ¬ (lo ≤ x ∧ x ≤ hi) := fun z => (lt_iff _ _).mpr z.2 h
theorem no_2 (z : RS) {a : Int32} (h : ¬ ((0 : Int32) ≤ a ∧ a ≤ (8 : Int32))) (b c : Int32) : rc2 z a b c = some (ARG, z) := by
  have hin : f_X8_in a.toInt64 (0 : Int64) (8 : Int64) = _ := in32 a 0 8
  unfold rc2 f_X8_about f_X8_about_b18
  rw [hin, Option.bind_some, decide_eq_false h, if_pos bfF, refuseB, Option.bind_some, if_neg bfT]
  exact congrArg (fun x => some (x, z)) (cod_1 ARG 0 0)
theorem no_3 {z : RS} {c m : Nat} (hz : ZC z c m) {a : Int32} (h : ¬ ∃ n, n < c ∧ a = i3 n) (b c' : Int32) : rc3 z a b c' = some (IDX, z) := by
  obtain ⟨tb, su, T⟩ := hz
  obtain ⟨d, -, y1, s1⟩ := hasCoin_eq T a
  cases d
  · unfold rc3 f_X8_coin f_X8_coin_b17
    rw [y1, Option.bind_some, if_pos bfF, refuseB, Option.bind_some, if_neg bfT]
    exact congrArg (fun x => some (x, z)) (cod_1 IDX 0 0)
  · exact absurd (s1.mp rfl) h
theorem no_acc {z : RS} {c m : Nat} (hz : ZC z c m) {a : Int32} (h : ¬ ∃ n, n < c ∧ a = i3 n) (y : Bool) : rcAcc z a y = some (IDX, z) := by
  obtain ⟨tb, su, T⟩ := hz
  obtain ⟨d, -, y1, s1⟩ := hasCoin_eq T a
  cases d
  · unfold rcAcc f_X8_accuse f_X8_accuse_b17
    rw [y1, Option.bind_some, if_pos bfF, refuseB, Option.bind_some, if_neg bfT]
    exact congrArg (fun x => some (x, z)) (cod_1 IDX 0 0)
  · exact absurd (s1.mp rfl) h
theorem no_4 {z : RS} {c m : Nat} (hz : ZC z c m) {a : Int32} (h : ¬ ((0 : Int32) ≤ a ∧ a ≤ i3 (nC c - 1))) (b c' : Int32) : rc4 z a b c' = some (IDX, z) := by
  have hc := hz.c
  have h75 := nC_lt (show c < 13 by omega)
  have hpos : 1 ≤ nC c := by unfold nC; omega
  have n0 : (0 : Int32).toNatClampNeg = 0 := by decide
  have e2 : i3 (nC c) - (1 : Int32) = i3 (nC c - 1) := i3_sub (b := 1) hpos
  have hin : f_X8_in a.toInt64 (0 : Int64) (i3 (nC c - 1)).toInt64 = _ := in32 a 0 (i3 (nC c - 1))
  unfold rc4 f_X8_isLeft f_X8_isLeft_b27
  rw [n0, hz.r0, allOf_eq, Option.bind_some, e2, hin, Option.bind_some, decide_eq_false h, if_pos bfF, refuseB, Option.bind_some, if_neg bfT]
  exact congrArg (fun x => some (x, z)) (cod_1 IDX 0 0)
theorem no_5 {z : RS} {c m : Nat} (hz : ZC z c m) {a : Int32} (h : ¬ ((0 : Int32) ≤ a ∧ a ≤ i3 m - (1 : Int32))) (b c' : Int32) : rc5 z a b c' = some (IDX, z) := by
  have n4 : (4 : Int32).toNatClampNeg = 4 := by decide
  have hin : f_X8_in a.toInt64 (0 : Int64) (i3 m - (1 : Int32)).toInt64 = _ := in32 a 0 (i3 m - (1 : Int32))
  unfold rc5 f_X8_weighing f_X8_weighing_b40
  rw [n4, hz.r4, hin, Option.bind_some, decide_eq_false h, if_pos bfF, refuse_yes _ (by decide : ¬ (1 : Int32) ≤ 0), Option.bind_some, if_neg bfT]
  exact congrArg (fun x => some (x, z)) (cod_1 IDX ARG 0)
theorem no_6a (z : RS) {a : Int32} (h : ¬ ((3 : Int32) ≤ a ∧ a ≤ (12 : Int32))) (b c : Int32) : rc6 z a b c = some (ARG, z) := by
  have h' : f_X8_in a.toInt64 (3 : Int64) (12 : Int64) = _ := in32 a 3 12
  unfold rc6 f_X8_hide f_X8_isCoins f_X8_hide_b33
  rw [h', Option.bind_some, Option.bind_some, decide_eq_false h, if_pos bfF, refuse_yes _ (by decide : ¬ (2 : Int32) ≤ 0), Option.bind_some, if_neg bfT]
  exact congrArg (fun x => some (x, z)) (cod_2 IDX ARG 0)
theorem no_6b (z : RS) {n : Nat} (hn : 3 ≤ n ∧ n ≤ 12) {b : Int32} (h : ¬ ((0 : Int32) ≤ b ∧ b ≤ i3 (nC n - 1))) (c : Int32) : rc6 z (i3 n) b c = some (IDX, z) := by
  have h' : f_X8_in (i3 n).toInt64 (3 : Int64) (12 : Int64) = _ := in32 (i3 n) 3 12
  have hok : (3 : Int32) ≤ i3 n ∧ i3 n ≤ (12 : Int32) := ⟨(i3_le (a := 3) (by decide) (by omega)).mpr hn.1, (i3_le (b := 12) (by omega) (by decide)).mpr hn.2⟩
  have hpos : 1 ≤ nC n := by unfold nC; omega
  have e2 : i3 (nC n) - (1 : Int32) = i3 (nC n - 1) := i3_sub (b := 1) hpos
  have hin : f_X8_in b.toInt64 (0 : Int64) (i3 (nC n - 1)).toInt64 = _ := in32 b 0 (i3 (nC n - 1))
  unfold rc6 f_X8_hide f_X8_isCoins f_X8_hide_b33
  rw [h', Option.bind_some, Option.bind_some, decide_eq_true hok, if_neg bfT, allOf_eq, Option.bind_some, e2, hin, Option.bind_some, decide_eq_false h, if_pos bfF, refuse_yes _ (by decide : ¬ (1 : Int32) ≤ 0), Option.bind_some, if_neg bfT]
  exact congrArg (fun x => some (x, z)) (cod_1 IDX ARG 0)
theorem no_7 (z : RS) {a b : Int32} (h : ¬ (okA a ∧ okA b)) (c : Int32) : rc7 z a b c = some (ARG, z) := by
  obtain ⟨d, e1, e2⟩ := isArms_eq a b
  cases d
  · unfold rc7 f_X8_arms f_X8_arms_b14
    rw [e1, Option.bind_some, if_pos bfF, refuseB, Option.bind_some, if_neg bfT]
    exact congrArg (fun x => some (x, z)) (cod_1 ARG 0 0)
  · exact absurd (e2.mp rfl) h
theorem no_8 {z : RS} {c m : Nat} (hz : ZC z c m) {a b : Int32} (h : ¬ WS c a b) (c' : Int32) : rc8 z a b c' = some (ARG, z) := by
  obtain ⟨tb, su, T⟩ := hz
  obtain ⟨d, e1, -, e3⟩ := refuse_sets T a b
  cases d
  · unfold rc8 f_X8_weigh f_X8_weigh_b34
    rw [e1, Option.bind_some, if_pos bfF, refuse_yes _ (by decide : ¬ (1 : Int32) ≤ 0), Option.bind_some, if_neg bfT]
    exact congrArg (fun x => some (x, z)) (cod_1 ARG STA 0)
  · exact absurd (e3.mp rfl) h
theorem full_8 {z : RS} {c m : Nat} (hz : ZC z c m) {a b : Int32} (hw : WS c a b) (hm : ¬ m < 20) (c' : Int32) : rc8 z a b c' = some (STA, z) := by
  obtain ⟨tb, su, T⟩ := hz
  obtain ⟨d, e1, -, e3⟩ := refuse_sets T a b
  have hd : d = true := e3.mpr hw
  subst hd
  obtain ⟨b2, q1, q2⟩ := canWR_eq T a b
  cases b2
  · unfold rc8 f_X8_weigh f_X8_weigh_b34
    rw [e1, Option.bind_some, if_neg bfT, q1, Option.bind_some, if_pos bfF, refuse_yes _ (by decide : ¬ (2 : Int32) ≤ 0), Option.bind_some, if_neg bfT]
    exact congrArg (fun x => some (x, z)) (cod_2 ARG STA 0)
  · exact absurd (q2.mp rfl).2 hm
theorem no_9 (z : RS) {a : Int32} (h : ¬ ((0 : Int32) ≤ a ∧ a ≤ (2 : Int32))) (b c : Int32) : rc9 z a b c = some (ARG, z) := by
  have hin : f_X8_in a.toInt64 (0 : Int64) (2 : Int64) = _ := in32 a 0 2
  unfold rc9 f_X8_accusePan f_X8_accusePan_b18
  rw [hin, Option.bind_some, decide_eq_false h, if_pos bfF, refuseB, Option.bind_some, if_neg bfT]
  exact congrArg (fun x => some (x, z)) (cod_1 ARG 0 0)
theorem no_12a (z : RS) {o : Int32} (h : ¬ ((0 : Int32) ≤ o ∧ o ≤ (2 : Int32))) (a b : Int32) : rc12 z a b o = some (IDX, z) := by
  have hin : f_X8_in o.toInt64 (0 : Int64) (2 : Int64) = _ := in32 o 0 2
  unfold rc12 f_X8_leaves f_X8_leaves_b34
  rw [hin, Option.bind_some, decide_eq_false h, if_pos bfF, refuse_yes _ (by decide : ¬ (1 : Int32) ≤ 0), Option.bind_some, if_neg bfT]
  exact congrArg (fun x => some (x, z)) (cod_1 IDX ARG 0)
theorem no_12b {z : RS} {c m : Nat} (hz : ZC z c m) {a b o : Int32} (ho : (0 : Int32) ≤ o ∧ o ≤ (2 : Int32)) (h : ¬ WS c a b) : rc12 z a b o = some (ARG, z) := by
  have hin : f_X8_in o.toInt64 (0 : Int64) (2 : Int64) = _ := in32 o 0 2
  obtain ⟨tb, su, T⟩ := hz
  obtain ⟨d, e1, -, e3⟩ := refuse_sets T a b
  cases d
  · unfold rc12 f_X8_leaves f_X8_leaves_b34
    rw [hin, Option.bind_some, decide_eq_true ho, if_neg bfT, e1, Option.bind_some, if_pos bfF, refuse_yes _ (by decide : ¬ (2 : Int32) ≤ 0), Option.bind_some, if_neg bfT]
    exact congrArg (fun x => some (x, z)) (cod_2 IDX ARG 0)
  · exact absurd (e3.mp rfl) h
theorem no_13 (z : RS) {j what : Int32} (h : ¬ (((1 : Int32) ≤ j ∧ j ≤ (2 : Int32)) ∧ ((0 : Int32) ≤ what ∧ what ≤ (2 : Int32)))) (c : Int32) : rc13 z j what c = some (ARG, z) := by
  have hinj : f_X8_in j.toInt64 (1 : Int64) (2 : Int64) = _ := in32 j 1 2
  have hinw : f_X8_in what.toInt64 (0 : Int64) (2 : Int64) = _ := in32 what 0 2
  have bad : f_X8_best_b29 (uZ z.1) z.2.1 Z0 Z0 j what = some ((0 : Int32), mK (uZ z.1) 1, Z0, Z0) := by
    unfold f_X8_best_b29 f_X8_best_b30
    rw [refuseB, Option.bind_some, if_neg bfT]
    rfl
  have E : f_X8_best (uZ z.1) z.2.1 Z0 Z0 j what = some ((0 : Int32), mK (uZ z.1) 1, Z0, Z0) := by
    unfold f_X8_best
    by_cases hj : (1 : Int32) ≤ j ∧ j ≤ (2 : Int32)
    · rw [hinj, Option.bind_some, decide_eq_true hj, if_neg bfT, hinw, Option.bind_some, decide_eq_false (fun z => h ⟨hj, z⟩), if_pos bfF, bad]
    · rw [hinj, Option.bind_some, decide_eq_false hj, if_pos bfF, bad]
  unfold rc13
  rw [E]
  exact congrArg (fun x => some (x, z)) (cod_1 ARG 0 0)
theorem no_14 {z : RS} {c m : Nat} (hz : ZC z c m) {a b : Int32} (h : ¬ WS c a b) (c' : Int32) : rc14 z a b c' = some (ARG, z) := by
  obtain ⟨tb, su, T⟩ := hz
  obtain ⟨d, e1, -, e3⟩ := refuse_sets T a b
  cases d
  · unfold rc14 f_X8_bestArms f_X8_bestArms_b18
    rw [e1, Option.bind_some, if_pos bfF, refuseB, Option.bind_some, if_neg bfT]
    exact congrArg (fun x => some (x, z)) (cod_1 ARG 0 0)
  · exact absurd (e3.mp rfl) h
theorem no_15 (z : RS) {a : Int32} (h : ¬ ((0 : Int32) ≤ a ∧ a ≤ (1 : Int32))) (b c : Int32) : rc15 z a b c = some (IDX, z) := by
  have hin : f_X8_in a.toInt64 (0 : Int64) (1 : Int64) = _ := in32 a 0 1
  unfold rc15 f_X8_save f_X8_save_b16
  rw [hin, Option.bind_some, decide_eq_false h, if_pos bfF, refuseB, Option.bind_some, if_neg bfT]
  exact congrArg (fun x => some (x, z)) (cod_1 IDX 0 0)
theorem no_16 (z : RS) {a : Int32} (h : ¬ ((0 : Int32) ≤ a ∧ a ≤ (1 : Int32))) (b c : Int32) : rc16 z a b c = some (IDX, z) := by
  have hin : f_X8_in a.toInt64 (0 : Int64) (1 : Int64) = _ := in32 a 0 1
  unfold rc16 f_X8_restore f_X8_restore_b29
  rw [hin, Option.bind_some, decide_eq_false h, if_pos bfF, refuse_yes _ (by decide : ¬ (1 : Int32) ≤ 0), Option.bind_some, if_neg bfT]
  exact congrArg (fun x => some (x, z)) (cod_1 IDX STA 0)
theorem no_sim (z : RS) (s : Int64) {a : Int32} (h : ¬ ((1 : Int32) ≤ a ∧ a ≤ (60 : Int32))) : rcSim z s a = some (ARG, z) := by
  have hin : f_X8_in a.toInt64 (1 : Int64) (60 : Int64) = _ := in32 a 1 60
  unfold rcSim f_X8_simulate f_X8_simulate_b18
  rw [hin, Option.bind_some, decide_eq_false h, if_pos bfF, refuseB, Option.bind_some, if_neg bfT]
  exact congrArg (fun x => some (x, z)) (cod_1 ARG 0 0)
/-! of the text and of scripts nothing is read: the object itself is as it was -/
theorem no_0 (v : OBv) {a : Int32} (h : ¬ ((0 : Int32) ≤ a ∧ a ≤ (255 : Int32))) (b c : Int32) : f_O_call v 0 a b c = some (ARG, v) := by
  have E : f_X7_append v.1 a = some (.inr (1, v.1)) := by
    unfold f_X7_append f_X7_append_b11
    by_cases h1 : a < 0
    · rw [if_pos h1]
    · rw [if_neg h1, if_neg (fun z => h ⟨(nn_iff _).mp h1, z⟩)]
  have E2 : f_L_tryAppend v.1 a = some (ARG, v.1) := by
    unfold f_L_tryAppend
    rw [E]
    rfl
  unfold f_O_call f_L_call
  rw [if_pos rfl, E2]
  rfl
theorem no_scr (v : OBv) {n : Int32} {s : Int64} (h : f_X7_runScript v.2.1 v.2.2.1 v.2.2.2.2.1 v.2.2.2.2.2.1 v.2.2.2.2.2.2.1 n s = some (.inr (1, v.2.2.2.2.1, v.2.2.2.2.2.1, v.2.2.2.2.2.2.1))) : f_O_doScript v n s = some (ARG, v) := by
  unfold f_O_doScript f_L_doScript
  rw [h]
  rfl
theorem no_scr0 (v : OBv) (s : Int64) : f_O_doScript v 0 s = some (ARG, v) := by
  refine no_scr v ?_
  unfold f_X7_runScript f_X7_runScript_b10
  rw [if_pos (by decide)]
theorem i6_of_i3 {x : Nat} (hx : x < 2 ^ 31) : (i3 x).toInt64 = i6 x := by
  apply Int64.toInt.inj
  rw [i6_int (by omega), Int32.toInt_toInt64, i3_int hx]
theorem no_scr1 (v : OBv) {x : Nat} (hx : x < 100000) : f_O_doScript v 1 ((100000 : Int64) + (i3 x).toInt64) = some (ARG, v) := by
  refine no_scr v ?_
  have e : (100000 : Int64) + (i3 x).toInt64 = i6 (100000 + x) := by
    rw [i6_of_i3 (by omega)]
    exact (Int64.ofNat_add 100000 x).symm
  rw [e]
  have hn : ¬ i6 (100000 + x) < 0 := fun z => by
    rw [Int64.lt_iff_toInt_lt, i6_int (by omega)] at z
    have : (0 : Int64).toInt = 0 := by decide
    omega
  have hg : f_X7_withoutGroups (i6 (100000 + x)) (1 : Int32) = some (i6 1) := by
    have h1 : f_X7_withoutGroups (i6 (100000 + x)) (i3 1) = _ := wG_eq (by omega) (by decide)
    have e1 : (100000 + x) / 100000 ^ 1 = 1 := by omega
    rw [e1] at h1
    exact h1
  unfold f_X7_runScript f_X7_runScript_b37
  rw [if_neg (by decide), if_pos (by decide), if_neg (fun z => hn ((cmp_neg _ 0).mp z)), hg, Option.bind_some, if_neg (by decide)]
