/-! ===== the law's calls on an object, beside the plain model ===== -/
abbrev ARG : Int32 := -9999002
abbrev IDX : Int32 := -9999001
abbrev STA : Int32 := -9999003
/-- what an object is, plainly: how many acts are remembered, the table's row, the remembered rows, the slots and whether they are filled -/
abbrev RS : Type := Int32 × Fn × Fn × Fn × Fn
def uZ (a : Int32) : MOv := (0, 0, a, 0, 0, 0)
def Z0 : Fn := fun _ => 0
def VO : FnL := fun _ => 0
def cod (C1 C2 k x : Int32) : Int32 := if k = 0 then x else if k = 1 then C1 else C2
theorem cod_0 (C1 C2 x : Int32) : cod C1 C2 0 x = x := if_pos rfl
theorem cod_1 (C1 C2 x : Int32) : cod C1 C2 1 x = C1 := by
  unfold cod
  rw [if_neg (by decide), if_pos rfl]
theorem cod_2 (C1 C2 x : Int32) : cod C1 C2 2 x = C2 := by
  unfold cod
  rw [if_neg (by decide), if_neg (by decide)]
theorem i64_inj {a b : Int32} (h : a.toInt64 = b.toInt64) : a = b := by
  have := congrArg Int64.toInt32 h
  simpa using this
def RelO (v : OBv) (z : RS) : Prop := TabX v.2.1 v.2.2.1 z.2.1 ∧ HisR v.2.2.2.2.2.2.2.1 v.2.2.2.2.2.2.2.2.1 z.1 z.2.2.1 ∧ SloR v.2.2.2.2.2.2.2.2.2.1 v.2.2.2.2.2.2.2.2.2.2.1 v.2.2.2.2.2.2.2.2.2.2.2.1 v.2.2.2.2.2.2.2.2.2.2.2.2.1 v.2.2.2.2.2.2.2.2.2.2.2.2.2.1 v.2.2.2.2.2.2.2.2.2.2.2.2.2.2.1 z.2.2.2.1 z.2.2.2.2 ∧ LsR v.2.2.2.2.2.2.2.2.2.2.2.2.2.2.2.2.1 12 1 ∧ LsR v.2.2.2.2.2.2.2.2.2.2.2.2.2.2.2.2.2 66 2
theorem tr_about {v1 : TBv} {v2 : Fn} {p1 : Int32} {k b : Int32} {w : FnL} (h : f_W_about v1 v2 VO p1 = some (k, w)) (hw : k = 0 → w 0 = b.toInt64) : f_L_tryAbout v1 v2 p1 = some (cod ARG 0 k b) := by
  unfold f_W_about at h
  unfold f_L_tryAbout
  cases e : f_X7_about v1 v2 p1 with
  | none => rw [e] at h; exact nomatch h
  | some x =>
    rw [e, Option.bind_some] at h
    rw [Option.bind_some]
    cases x with
    | inl q =>
      have h := sinl h
      have h := Option.some.inj h
      cases h
      have e2 : q = b := i64_inj ((vo_0 VO q.toInt64).symm.trans (hw rfl))
      subst e2
      rfl
    | inr q =>
      have h := sinr h
      by_cases c0 : q = 1
      · rw [if_pos c0] at h
        cases h
        exact if_pos c0
      · rw [if_neg c0] at h
        exact nomatch h
theorem tr_coin {v1 : TBv} {v2 : Fn} {p1 : Int32} {k b : Int32} {w : FnL} (h : f_W_coin v1 v2 VO p1 = some (k, w)) (hw : k = 0 → w 0 = b.toInt64) : f_L_tryCoin v1 v2 p1 = some (cod IDX 0 k b) := by
  unfold f_W_coin at h
  unfold f_L_tryCoin
  cases e : f_X7_coin v1 v2 p1 with
  | none => rw [e] at h; exact nomatch h
  | some x =>
    rw [e, Option.bind_some] at h
    rw [Option.bind_some]
    cases x with
    | inl q =>
      have h := sinl h
      have h := Option.some.inj h
      cases h
      have e2 : q = b := i64_inj ((vo_0 VO q.toInt64).symm.trans (hw rfl))
      subst e2
      rfl
    | inr q =>
      have h := sinr h
      by_cases c0 : q = 3
      · rw [if_pos c0] at h
        cases h
        exact if_pos c0
      · rw [if_neg c0] at h
        exact nomatch h
theorem tr_isLeft {v1 : TBv} {v2 : Fn} {p1 : Int32} {k b : Int32} {w : FnL} (h : f_W_isLeft v1 v2 VO p1 = some (k, w)) (hw : k = 0 → w 0 = b.toInt64) : f_L_tryIs v1 v2 p1 = some (cod IDX 0 k b) := by
  unfold f_W_isLeft at h
  unfold f_L_tryIs
  cases e : f_X7_isLeft v1 v2 p1 with
  | none => rw [e] at h; exact nomatch h
  | some x =>
    rw [e, Option.bind_some] at h
    rw [Option.bind_some]
    cases x with
    | inl q =>
      have h := sinl h
      have h := Option.some.inj h
      cases h
      have e2 : q = b := i64_inj ((vo_0 VO q.toInt64).symm.trans (hw rfl))
      subst e2
      rfl
    | inr q =>
      have h := sinr h
      by_cases c0 : q = 3
      · rw [if_pos c0] at h
        cases h
        exact if_pos c0
      · rw [if_neg c0] at h
        exact nomatch h
theorem tr_weighing {v1 : TBv} {p1 : Int32} {p2 : Int32} {k b : Int32} {w : FnL} (h : f_W_weighing v1 VO p1 p2 = some (k, w)) (hw : k = 0 → w 0 = b.toInt64) : f_L_tryTold v1 p1 p2 = some (cod IDX ARG k b) := by
  unfold f_W_weighing at h
  unfold f_L_tryTold
  cases e : f_X7_weighing v1 p1 p2 with
  | none => rw [e] at h; exact nomatch h
  | some x =>
    rw [e, Option.bind_some] at h
    rw [Option.bind_some]
    cases x with
    | inl q =>
      have h := sinl h
      have h := Option.some.inj h
      cases h
      have e2 : q = b := i64_inj ((vo_0 VO q.toInt64).symm.trans (hw rfl))
      subst e2
      rfl
    | inr q =>
      have h := sinr h
      by_cases c0 : q = 3
      · rw [if_pos c0] at h
        cases h
        exact if_pos c0
      · rw [if_neg c0] at h
        by_cases c1 : q = 1
        · rw [if_pos c1] at h
          cases h
          exact (if_neg c0).trans (if_pos c1)
        · rw [if_neg c1] at h
          exact nomatch h
theorem tr_hide {v1 : TBv} {v2 : Fn} {vh : HIv} {vr : HRv} {p1 : Int32} {p2 : Int32} {k b : Int32} {v1' : TBv} {v2' : Fn} {vh' : HIv} {vr' : HRv} {w : FnL} (h : f_W_hide v1 v2 vh vr VO p1 p2 = some (k, v1', v2', vh', vr', w)) (hw : k = 0 → w 0 = b.toInt64) : f_L_tryHide v1 v2 vh vr p1 p2 = some (cod IDX ARG k b, v1', v2', vh', vr') := by
  unfold f_W_hide at h
  unfold f_L_tryHide
  cases e : f_X7_hide v1 v2 vh vr p1 p2 with
  | none => rw [e] at h; exact nomatch h
  | some x =>
    rw [e, Option.bind_some] at h
    rw [Option.bind_some]
    cases x with
    | inl q =>
      have h := sinl h
      have h := Option.some.inj h
      cases h
      have e2 : q.1 = b := i64_inj ((vo_0 VO q.1.toInt64).symm.trans (hw rfl))
      subst e2
      rfl
    | inr q =>
      have h := sinr h
      by_cases c0 : q.1 = 3
      · rw [if_pos c0] at h
        cases h
        exact if_pos c0
      · rw [if_neg c0] at h
        by_cases c1 : q.1 = 1
        · rw [if_pos c1] at h
          cases h
          exact (if_neg c0).trans (if_pos c1)
        · rw [if_neg c1] at h
          exact nomatch h
theorem tr_arms {v1 : TBv} {v2 : Fn} {vh : HIv} {vr : HRv} {p1 : Int32} {p2 : Int32} {k b : Int32} {v1' : TBv} {vh' : HIv} {vr' : HRv} {w : FnL} (h : f_W_arms v1 v2 vh vr VO p1 p2 = some (k, v1', vh', vr', w)) (hw : k = 0 → w 0 = b.toInt64) : f_L_tryArms v1 v2 vh vr p1 p2 = some (cod ARG 0 k b, v1', vh', vr') := by
  unfold f_W_arms at h
  unfold f_L_tryArms
  cases e : f_X7_arms v1 v2 vh vr p1 p2 with
  | none => rw [e] at h; exact nomatch h
  | some x =>
    rw [e, Option.bind_some] at h
    rw [Option.bind_some]
    cases x with
    | inl q =>
      have h := sinl h
      have h := Option.some.inj h
      cases h
      have e2 : q.1 = b := i64_inj ((vo_0 VO q.1.toInt64).symm.trans (hw rfl))
      subst e2
      rfl
    | inr q =>
      have h := sinr h
      by_cases c0 : q.1 = 1
      · rw [if_pos c0] at h
        cases h
        exact if_pos c0
      · rw [if_neg c0] at h
        exact nomatch h
theorem tr_weigh {v1 : TBv} {v2 : Fn} {v3 : SCv} {vh : HIv} {vr : HRv} {p1 : Int32} {p2 : Int32} {k b : Int32} {v1' : TBv} {v2' : Fn} {v3' : SCv} {vh' : HIv} {vr' : HRv} {w : FnL} (h : f_W_weigh v1 v2 v3 vh vr VO p1 p2 = some (k, v1', v2', v3', vh', vr', w)) (hw : k = 0 → w 0 = b.toInt64) : f_L_tryWeigh v1 v2 v3 vh vr p1 p2 = some (cod ARG STA k b, v1', v2', v3', vh', vr') := by
  unfold f_W_weigh at h
  unfold f_L_tryWeigh
  cases e : f_X7_weigh v1 v2 v3 vh vr p1 p2 with
  | none => rw [e] at h; exact nomatch h
  | some x =>
    rw [e, Option.bind_some] at h
    rw [Option.bind_some]
    cases x with
    | inl q =>
      have h := sinl h
      have h := Option.some.inj h
      cases h
      have e2 : q.1 = b := i64_inj ((vo_0 VO q.1.toInt64).symm.trans (hw rfl))
      subst e2
      rfl
    | inr q =>
      have h := sinr h
      by_cases c0 : q.1 = 1
      · rw [if_pos c0] at h
        cases h
        exact if_pos c0
      · rw [if_neg c0] at h
        by_cases c1 : q.1 = 2
        · rw [if_pos c1] at h
          cases h
          exact (if_neg c0).trans (if_pos c1)
        · rw [if_neg c1] at h
          exact nomatch h
theorem tr_accusePan {v1 : TBv} {v2 : Fn} {vh : HIv} {vr : HRv} {p1 : Int32} {k b : Int32} {v1' : TBv} {vh' : HIv} {vr' : HRv} {w : FnL} (h : f_W_accusePan v1 v2 vh vr VO p1 = some (k, v1', vh', vr', w)) (hw : k = 0 → w 0 = b.toInt64) : f_L_tryPan v1 v2 vh vr p1 = some (cod ARG 0 k b, v1', vh', vr') := by
  unfold f_W_accusePan at h
  unfold f_L_tryPan
  cases e : f_X7_accusePan v1 v2 vh vr p1 with
  | none => rw [e] at h; exact nomatch h
  | some x =>
    rw [e, Option.bind_some] at h
    rw [Option.bind_some]
    cases x with
    | inl q =>
      have h := sinl h
      have h := Option.some.inj h
      cases h
      have e2 : q.1 = b := i64_inj ((vo_0 VO q.1.toInt64).symm.trans (hw rfl))
      subst e2
      rfl
    | inr q =>
      have h := sinr h
      by_cases c0 : q.1 = 1
      · rw [if_pos c0] at h
        cases h
        exact if_pos c0
      · rw [if_neg c0] at h
        exact nomatch h
theorem tr_forget {v1 : TBv} {v2 : Fn} {v3 : SCv} {vh : HIv} {vr : HRv} {k b : Int32} {v1' : TBv} {v2' : Fn} {v3' : SCv} {vh' : HIv} {vr' : HRv} {w : FnL} (h : f_W_forget v1 v2 v3 vh vr VO = some (k, v1', v2', v3', vh', vr', w)) (hw : k = 0 → w 0 = b.toInt64) : f_L_tryForget v1 v2 v3 vh vr = some (cod STA 0 k b, v1', v2', v3', vh', vr') := by
  unfold f_W_forget at h
  unfold f_L_tryForget
  cases e : f_X7_forget v1 v2 v3 vh vr with
  | none => rw [e] at h; exact nomatch h
  | some x =>
    rw [e, Option.bind_some] at h
    rw [Option.bind_some]
    cases x with
    | inl q =>
      have h := sinl h
      have h := Option.some.inj h
      cases h
      have e2 : q.1 = b := i64_inj ((vo_0 VO q.1.toInt64).symm.trans (hw rfl))
      subst e2
      rfl
    | inr q =>
      have h := sinr h
      by_cases c0 : q.1 = 2
      · rw [if_pos c0] at h
        cases h
        exact if_pos c0
      · rw [if_neg c0] at h
        exact nomatch h
theorem tr_undo {v1 : TBv} {v2 : Fn} {vh : HIv} {vr : HRv} {k b : Int32} {v1' : TBv} {v2' : Fn} {vh' : HIv} {w : FnL} (h : f_W_undo v1 v2 vh vr VO = some (k, v1', v2', vh', w)) (hw : k = 0 → w 0 = b.toInt64) : f_L_tryUndo v1 v2 vh vr = some (cod STA 0 k b, v1', v2', vh') := by
  unfold f_W_undo at h
  unfold f_L_tryUndo
  cases e : f_X7_undo v1 v2 vh vr with
  | none => rw [e] at h; exact nomatch h
  | some x =>
    rw [e, Option.bind_some] at h
    rw [Option.bind_some]
    cases x with
    | inl q =>
      have h := sinl h
      have h := Option.some.inj h
      cases h
      have e2 : q.1 = b := i64_inj ((vo_0 VO q.1.toInt64).symm.trans (hw rfl))
      subst e2
      rfl
    | inr q =>
      have h := sinr h
      by_cases c0 : q.1 = 2
      · rw [if_pos c0] at h
        cases h
        exact if_pos c0
      · rw [if_neg c0] at h
        exact nomatch h
theorem tr_leaves {v1 : TBv} {v2 : Fn} {v3 : SCv} {v13 : TAv} {p1 : Int32} {p2 : Int32} {p3 : Int32} {k b : Int32} {v3' : SCv} {v13' : TAv} {w : FnL} (h : f_W_leaves v1 v2 v3 v13 VO p1 p2 p3 = some (k, v3', v13', w)) (hw : k = 0 → w 0 = b.toInt64) : f_L_tryLeaves v1 v2 v3 v13 p1 p2 p3 = some (cod IDX ARG k b, v3', v13') := by
  unfold f_W_leaves at h
  unfold f_L_tryLeaves
  cases e : f_X7_leaves v1 v2 v3 v13 p1 p2 p3 with
  | none => rw [e] at h; exact nomatch h
  | some x =>
    rw [e, Option.bind_some] at h
    rw [Option.bind_some]
    cases x with
    | inl q =>
      have h := sinl h
      have h := Option.some.inj h
      cases h
      have e2 : q.1 = b := i64_inj ((vo_0 VO q.1.toInt64).symm.trans (hw rfl))
      subst e2
      rfl
    | inr q =>
      have h := sinr h
      by_cases c0 : q.1 = 3
      · rw [if_pos c0] at h
        cases h
        exact if_pos c0
      · rw [if_neg c0] at h
        by_cases c1 : q.1 = 1
        · rw [if_pos c1] at h
          cases h
          exact (if_neg c0).trans (if_pos c1)
        · rw [if_neg c1] at h
          exact nomatch h
theorem tr_best {v1 : TBv} {v2 : Fn} {v3 : SCv} {v13 : TAv} {v14 : Fn} {v15 : Fn} {p1 : Int32} {p2 : Int32} {k b : Int32} {v3' : SCv} {v13' : TAv} {w : FnL} (h : f_W_best v1 v2 v3 v13 v14 v15 VO p1 p2 = some (k, v3', v13', w)) (hw : k = 0 → w 0 = b.toInt64) : f_L_tryBest v1 v2 v3 v13 v14 v15 p1 p2 = some (cod ARG 0 k b, v3', v13') := by
  unfold f_W_best at h
  unfold f_L_tryBest
  cases e : f_X7_best v1 v2 v3 v13 v14 v15 p1 p2 with
  | none => rw [e] at h; exact nomatch h
  | some x =>
    rw [e, Option.bind_some] at h
    rw [Option.bind_some]
    cases x with
    | inl q =>
      have h := sinl h
      have h := Option.some.inj h
      cases h
      have e2 : q.1 = b := i64_inj ((vo_0 VO q.1.toInt64).symm.trans (hw rfl))
      subst e2
      rfl
    | inr q =>
      have h := sinr h
      by_cases c0 : q.1 = 1
      · rw [if_pos c0] at h
        cases h
        exact if_pos c0
      · rw [if_neg c0] at h
        exact nomatch h
theorem tr_bestArms {v1 : TBv} {v2 : Fn} {v3 : SCv} {v13 : TAv} {p1 : Int32} {p2 : Int32} {k b : Int32} {v3' : SCv} {v13' : TAv} {w : FnL} (h : f_W_bestArms v1 v2 v3 v13 VO p1 p2 = some (k, v3', v13', w)) (hw : k = 0 → w 0 = b.toInt64) : f_L_tryTry v1 v2 v3 v13 p1 p2 = some (cod ARG 0 k b, v3', v13') := by
  unfold f_W_bestArms at h
  unfold f_L_tryTry
  cases e : f_X7_bestArms v1 v2 v3 v13 p1 p2 with
  | none => rw [e] at h; exact nomatch h
  | some x =>
    rw [e, Option.bind_some] at h
    rw [Option.bind_some]
    cases x with
    | inl q =>
      have h := sinl h
      have h := Option.some.inj h
      cases h
      have e2 : q.1 = b := i64_inj ((vo_0 VO q.1.toInt64).symm.trans (hw rfl))
      subst e2
      rfl
    | inr q =>
      have h := sinr h
      by_cases c0 : q.1 = 1
      · rw [if_pos c0] at h
        cases h
        exact if_pos c0
      · rw [if_neg c0] at h
        exact nomatch h
theorem tr_save {v1 : TBv} {v2 : Fn} {v7 : Int32} {v8 : TBv} {v9 : Fn} {v10 : Int32} {v11 : TBv} {v12 : Fn} {p1 : Int32} {k b : Int32} {v7' : Int32} {v8' : TBv} {v9' : Fn} {v10' : Int32} {v11' : TBv} {v12' : Fn} {w : FnL} (h : f_W_save v1 v2 v7 v8 v9 v10 v11 v12 VO p1 = some (k, v7', v8', v9', v10', v11', v12', w)) (hw : k = 0 → w 0 = b.toInt64) : f_L_tryKeep v1 v2 v7 v8 v9 v10 v11 v12 p1 = some (cod IDX 0 k b, v7', v8', v9', v10', v11', v12') := by
  unfold f_W_save at h
  unfold f_L_tryKeep
  cases e : f_X7_save v1 v2 v7 v8 v9 v10 v11 v12 p1 with
  | none => rw [e] at h; exact nomatch h
  | some x =>
    rw [e, Option.bind_some] at h
    rw [Option.bind_some]
    cases x with
    | inl q =>
      have h := sinl h
      have h := Option.some.inj h
      cases h
      have e2 : q.1 = b := i64_inj ((vo_0 VO q.1.toInt64).symm.trans (hw rfl))
      subst e2
      rfl
    | inr q =>
      have h := sinr h
      by_cases c0 : q.1 = 3
      · rw [if_pos c0] at h
        cases h
        exact if_pos c0
      · rw [if_neg c0] at h
        exact nomatch h
theorem tr_restore {v1 : TBv} {v2 : Fn} {vh : HIv} {v7 : Int32} {v8 : TBv} {v9 : Fn} {v10 : Int32} {v11 : TBv} {v12 : Fn} {p1 : Int32} {k b : Int32} {v1' : TBv} {v2' : Fn} {vh' : HIv} {w : FnL} (h : f_W_restore v1 v2 vh v7 v8 v9 v10 v11 v12 VO p1 = some (k, v1', v2', vh', w)) (hw : k = 0 → w 0 = b.toInt64) : f_L_tryBack v1 v2 vh v7 v8 v9 v10 v11 v12 p1 = some (cod IDX STA k b, v1', v2', vh') := by
  unfold f_W_restore at h
  unfold f_L_tryBack
  cases e : f_X7_restore v1 v2 vh v7 v8 v9 v10 v11 v12 p1 with
  | none => rw [e] at h; exact nomatch h
  | some x =>
    rw [e, Option.bind_some] at h
    rw [Option.bind_some]
    cases x with
    | inl q =>
      have h := sinl h
      have h := Option.some.inj h
      cases h
      have e2 : q.1 = b := i64_inj ((vo_0 VO q.1.toInt64).symm.trans (hw rfl))
      subst e2
      rfl
    | inr q =>
      have h := sinr h
      by_cases c0 : q.1 = 3
      · rw [if_pos c0] at h
        cases h
        exact if_pos c0
      · rw [if_neg c0] at h
        by_cases c1 : q.1 = 2
        · rw [if_pos c1] at h
          cases h
          exact (if_neg c0).trans (if_pos c1)
        · rw [if_neg c1] at h
          exact nomatch h
theorem tr_accuse {v0 : TXv} {v1 : TBv} {v2 : Fn} {v3 : SCv} {v4 : TBv} {v5 : Fn} {v6 : SCv} {vh : HIv} {vr : HRv} {v7 : Int32} {v8 : TBv} {v9 : Fn} {v10 : Int32} {v11 : TBv} {v12 : Fn} {v13 : TAv} {v14 : Fn} {v15 : Fn} {p1 : Int32} {p2 : Bool} {k b : Int32} {v1' : TBv} {vh' : HIv} {vr' : HRv} {w : FnL} (h : f_W_accuse v1 v2 vh vr VO p1 p2 = some (k, v1', vh', vr', w)) (hw : k = 0 → w 0 = b.toInt64) : f_L_accuses v0 v1 v2 v3 v4 v5 v6 vh vr v7 v8 v9 v10 v11 v12 v13 v14 v15 p1 p2 = some (cod IDX 0 k b, v1', vh', vr') := by
  unfold f_W_accuse at h
  unfold f_L_accuses
  cases e : f_X7_accuse v1 v2 vh vr p1 p2 with
  | none => rw [e] at h; exact nomatch h
  | some x =>
    rw [e, Option.bind_some] at h
    rw [Option.bind_some]
    cases x with
    | inl q =>
      have h := sinl h
      have h := Option.some.inj h
      cases h
      have e2 : q.1 = b := i64_inj ((vo_0 VO q.1.toInt64).symm.trans (hw rfl))
      subst e2
      rfl
    | inr q =>
      have h := sinr h
      by_cases c0 : q.1 = 3
      · rw [if_pos c0] at h
        cases h
        exact if_pos c0
      · rw [if_neg c0] at h
        exact nomatch h
theorem tr_simulate {v0 : TXv} {v1 : TBv} {v2 : Fn} {v3 : SCv} {v4 : TBv} {v5 : Fn} {v6 : SCv} {vh : HIv} {vr : HRv} {v7 : Int32} {v8 : TBv} {v9 : Fn} {v10 : Int32} {v11 : TBv} {v12 : Fn} {v13 : TAv} {v14 : Fn} {v15 : Fn} {p1 : Int64} {p2 : Int32} {k b : Int32} {v4' : TBv} {v5' : Fn} {v6' : SCv} {w : FnL} (h : f_W_simulate v1 v2 v4 v5 v6 VO p1 p2 = some (k, v4', v5', v6', w)) (hw : k = 0 → w 0 = b.toInt64) : f_L_doSimulate v0 v1 v2 v3 v4 v5 v6 vh vr v7 v8 v9 v10 v11 v12 v13 v14 v15 p1 p2 = some (cod ARG 0 k b, v4', v5', v6') := by
  unfold f_W_simulate at h
  unfold f_L_doSimulate
  cases e : f_X7_simulate v1 v2 v4 v5 v6 p1 p2 with
  | none => rw [e] at h; exact nomatch h
  | some x =>
    rw [e, Option.bind_some] at h
    rw [Option.bind_some]
    cases x with
    | inl q =>
      have h := sinl h
      have h := Option.some.inj h
      cases h
      have e2 : q.1 = b := i64_inj ((vo_0 VO q.1.toInt64).symm.trans (hw rfl))
      subst e2
      rfl
    | inr q =>
      have h := sinr h
      by_cases c0 : q.1 = 1
      · rw [if_pos c0] at h
        cases h
        exact if_pos c0
      · rw [if_neg c0] at h
        exact nomatch h
def rc2 (z : RS) (a b c : Int32) : Option (Int32 × RS) := (f_X8_about (uZ z.1) z.2.1 a).bind (fun q => some (cod ARG 0 q.2.1 q.1, z))
def rc3 (z : RS) (a b c : Int32) : Option (Int32 × RS) := (f_X8_coin (uZ z.1) z.2.1 a).bind (fun q => some (cod IDX 0 q.2.1 q.1, z))
def rc4 (z : RS) (a b c : Int32) : Option (Int32 × RS) := (f_X8_isLeft (uZ z.1) z.2.1 a).bind (fun q => some (cod IDX 0 q.2.1 q.1, z))
def rc5 (z : RS) (a b c : Int32) : Option (Int32 × RS) := (f_X8_weighing (uZ z.1) z.2.1 a b).bind (fun q => some (cod IDX ARG q.2.1 q.1, z))
def rc6 (z : RS) (a b c : Int32) : Option (Int32 × RS) := (f_X8_hide (uZ z.1) z.2.1 z.2.2.1 a b).bind (fun q => some (cod IDX ARG q.2.1.1 q.1, q.2.1.2.2.1, q.2.2.1, q.2.2.2, z.2.2.2))
def rc7 (z : RS) (a b c : Int32) : Option (Int32 × RS) := (f_X8_arms (uZ z.1) z.2.1 z.2.2.1 a b).bind (fun q => some (cod ARG 0 q.2.1.1 q.1, q.2.1.2.2.1, q.2.2.1, q.2.2.2, z.2.2.2))
def rc8 (z : RS) (a b c : Int32) : Option (Int32 × RS) := (f_X8_weigh (uZ z.1) z.2.1 z.2.2.1 a b).bind (fun q => some (cod ARG STA q.2.1.1 q.1, q.2.1.2.2.1, q.2.2.1, q.2.2.2, z.2.2.2))
def rc9 (z : RS) (a b c : Int32) : Option (Int32 × RS) := (f_X8_accusePan (uZ z.1) z.2.1 z.2.2.1 a).bind (fun q => some (cod ARG 0 q.2.1.1 q.1, q.2.1.2.2.1, q.2.2.1, q.2.2.2, z.2.2.2))
def rc10 (z : RS) (a b c : Int32) : Option (Int32 × RS) := (f_X8_forget (uZ z.1) z.2.1 z.2.2.1).bind (fun q => some (cod STA 0 q.2.1.1 q.1, q.2.1.2.2.1, q.2.2.1, q.2.2.2, z.2.2.2))
def rc11 (z : RS) (a b c : Int32) : Option (Int32 × RS) := (f_X8_undo (uZ z.1) z.2.1 z.2.2.1).bind (fun q => some (cod STA 0 q.2.1.1 q.1, q.2.1.2.2.1, q.2.2, z.2.2))
def rc12 (z : RS) (a b c : Int32) : Option (Int32 × RS) := (f_X8_leaves (uZ z.1) z.2.1 Z0 Z0 a b c).bind (fun q => some (cod IDX ARG q.2.1.1 q.1, z))
def rc13 (z : RS) (a b c : Int32) : Option (Int32 × RS) := (f_X8_best (uZ z.1) z.2.1 Z0 Z0 a b).bind (fun q => some (cod ARG 0 q.2.1.1 q.1, z))
def rc14 (z : RS) (a b c : Int32) : Option (Int32 × RS) := (f_X8_bestArms (uZ z.1) z.2.1 Z0 Z0 a b).bind (fun q => some (cod ARG 0 q.2.1.1 q.1, z))
def rc15 (z : RS) (a b c : Int32) : Option (Int32 × RS) := (f_X8_save (uZ z.1) z.2.1 z.2.2.2.1 z.2.2.2.2 a).bind (fun q => some (cod IDX 0 q.2.1.1 q.1, z.1, z.2.1, z.2.2.1, q.2.2.1, q.2.2.2))
def rc16 (z : RS) (a b c : Int32) : Option (Int32 × RS) := (f_X8_restore (uZ z.1) z.2.1 z.2.2.2.1 z.2.2.2.2 a).bind (fun q => some (cod IDX STA q.2.1.1 q.1, q.2.1.2.2.1, q.2.2, z.2.2))
def rcAcc (z : RS) (a : Int32) (y : Bool) : Option (Int32 × RS) := (f_X8_accuse (uZ z.1) z.2.1 z.2.2.1 a y).bind (fun q => some (cod IDX 0 q.2.1.1 q.1, q.2.1.2.2.1, q.2.2.1, q.2.2.2, z.2.2.2))
def rcSim (z : RS) (x : Int64) (m : Int32) : Option (Int32 × RS) := (f_X8_simulate (uZ z.1) z.2.1 Z0 x m).bind (fun q => some (cod ARG 0 q.2.1.1 q.1, z))
set_option maxRecDepth 100000 in
set_option maxHeartbeats 1000000 in
theorem call_2 {v : OBv} {z : RS} (h : RelO v z) (a b c : Int32) : ∃ x v' z', f_O_call v 2 a b c = some (x, v') ∧ rc2 z a b c = some (x, z') ∧ RelO v' z' := by
  obtain ⟨hT, hH, hS, hL1, hL2⟩ := h
  obtain ⟨k, w, x, E1, E2, hw⟩ := about_eq hT (uZ z.1) VO a
  refine ⟨cod ARG 0 k x, (v.1, v.2.1, v.2.2.1, v.2.2.2.1, v.2.2.2.2.1, v.2.2.2.2.2.1, v.2.2.2.2.2.2.1, v.2.2.2.2.2.2.2.1, v.2.2.2.2.2.2.2.2.1, v.2.2.2.2.2.2.2.2.2.1, v.2.2.2.2.2.2.2.2.2.2.1, v.2.2.2.2.2.2.2.2.2.2.2.1, v.2.2.2.2.2.2.2.2.2.2.2.2.1, v.2.2.2.2.2.2.2.2.2.2.2.2.2.1, v.2.2.2.2.2.2.2.2.2.2.2.2.2.2.1, v.2.2.2.2.2.2.2.2.2.2.2.2.2.2.2.1, v.2.2.2.2.2.2.2.2.2.2.2.2.2.2.2.2.1, v.2.2.2.2.2.2.2.2.2.2.2.2.2.2.2.2.2), z, ?_, ?_, ⟨hT, hH, hS, hL1, hL2⟩⟩
  · unfold f_O_call f_L_call
    rw [if_neg (show ¬ (2 : Int32) = (0 : Int32) by decide), if_neg (show ¬ (2 : Int32) = (1 : Int32) by decide), if_pos rfl, tr_about E1 hw]
    rfl
  · unfold rc2
    rw [E2]
    rfl
set_option maxRecDepth 100000 in
set_option maxHeartbeats 1000000 in
theorem call_3 {v : OBv} {z : RS} (h : RelO v z) (a b c : Int32) : ∃ x v' z', f_O_call v 3 a b c = some (x, v') ∧ rc3 z a b c = some (x, z') ∧ RelO v' z' := by
  obtain ⟨hT, hH, hS, hL1, hL2⟩ := h
  obtain ⟨k, w, x, E1, E2, hw⟩ := coin_eq hT (uZ z.1) VO a
  refine ⟨cod IDX 0 k x, (v.1, v.2.1, v.2.2.1, v.2.2.2.1, v.2.2.2.2.1, v.2.2.2.2.2.1, v.2.2.2.2.2.2.1, v.2.2.2.2.2.2.2.1, v.2.2.2.2.2.2.2.2.1, v.2.2.2.2.2.2.2.2.2.1, v.2.2.2.2.2.2.2.2.2.2.1, v.2.2.2.2.2.2.2.2.2.2.2.1, v.2.2.2.2.2.2.2.2.2.2.2.2.1, v.2.2.2.2.2.2.2.2.2.2.2.2.2.1, v.2.2.2.2.2.2.2.2.2.2.2.2.2.2.1, v.2.2.2.2.2.2.2.2.2.2.2.2.2.2.2.1, v.2.2.2.2.2.2.2.2.2.2.2.2.2.2.2.2.1, v.2.2.2.2.2.2.2.2.2.2.2.2.2.2.2.2.2), z, ?_, ?_, ⟨hT, hH, hS, hL1, hL2⟩⟩
  · unfold f_O_call f_L_call
    rw [if_neg (show ¬ (3 : Int32) = (0 : Int32) by decide), if_neg (show ¬ (3 : Int32) = (1 : Int32) by decide), if_neg (show ¬ (3 : Int32) = (2 : Int32) by decide), if_pos rfl, tr_coin E1 hw]
    rfl
  · unfold rc3
    rw [E2]
    rfl
set_option maxRecDepth 100000 in
set_option maxHeartbeats 1000000 in
theorem call_4 {v : OBv} {z : RS} (h : RelO v z) (a b c : Int32) : ∃ x v' z', f_O_call v 4 a b c = some (x, v') ∧ rc4 z a b c = some (x, z') ∧ RelO v' z' := by
  obtain ⟨hT, hH, hS, hL1, hL2⟩ := h
  obtain ⟨k, w, x, E1, E2, hw⟩ := isLeft_eq hT (uZ z.1) VO a
  refine ⟨cod IDX 0 k x, (v.1, v.2.1, v.2.2.1, v.2.2.2.1, v.2.2.2.2.1, v.2.2.2.2.2.1, v.2.2.2.2.2.2.1, v.2.2.2.2.2.2.2.1, v.2.2.2.2.2.2.2.2.1, v.2.2.2.2.2.2.2.2.2.1, v.2.2.2.2.2.2.2.2.2.2.1, v.2.2.2.2.2.2.2.2.2.2.2.1, v.2.2.2.2.2.2.2.2.2.2.2.2.1, v.2.2.2.2.2.2.2.2.2.2.2.2.2.1, v.2.2.2.2.2.2.2.2.2.2.2.2.2.2.1, v.2.2.2.2.2.2.2.2.2.2.2.2.2.2.2.1, v.2.2.2.2.2.2.2.2.2.2.2.2.2.2.2.2.1, v.2.2.2.2.2.2.2.2.2.2.2.2.2.2.2.2.2), z, ?_, ?_, ⟨hT, hH, hS, hL1, hL2⟩⟩
  · unfold f_O_call f_L_call
    rw [if_neg (show ¬ (4 : Int32) = (0 : Int32) by decide), if_neg (show ¬ (4 : Int32) = (1 : Int32) by decide), if_neg (show ¬ (4 : Int32) = (2 : Int32) by decide), if_neg (show ¬ (4 : Int32) = (3 : Int32) by decide), if_pos rfl, tr_isLeft E1 hw]
    rfl
  · unfold rc4
    rw [E2]
    rfl
set_option maxRecDepth 100000 in
set_option maxHeartbeats 1000000 in
theorem call_5 {v : OBv} {z : RS} (h : RelO v z) (a b c : Int32) : ∃ x v' z', f_O_call v 5 a b c = some (x, v') ∧ rc5 z a b c = some (x, z') ∧ RelO v' z' := by
  obtain ⟨hT, hH, hS, hL1, hL2⟩ := h
  obtain ⟨k, w, x, E1, E2, hw⟩ := weighing_eq hT (uZ z.1) VO a b
  refine ⟨cod IDX ARG k x, (v.1, v.2.1, v.2.2.1, v.2.2.2.1, v.2.2.2.2.1, v.2.2.2.2.2.1, v.2.2.2.2.2.2.1, v.2.2.2.2.2.2.2.1, v.2.2.2.2.2.2.2.2.1, v.2.2.2.2.2.2.2.2.2.1, v.2.2.2.2.2.2.2.2.2.2.1, v.2.2.2.2.2.2.2.2.2.2.2.1, v.2.2.2.2.2.2.2.2.2.2.2.2.1, v.2.2.2.2.2.2.2.2.2.2.2.2.2.1, v.2.2.2.2.2.2.2.2.2.2.2.2.2.2.1, v.2.2.2.2.2.2.2.2.2.2.2.2.2.2.2.1, v.2.2.2.2.2.2.2.2.2.2.2.2.2.2.2.2.1, v.2.2.2.2.2.2.2.2.2.2.2.2.2.2.2.2.2), z, ?_, ?_, ⟨hT, hH, hS, hL1, hL2⟩⟩
  · unfold f_O_call f_L_call
    rw [if_neg (show ¬ (5 : Int32) = (0 : Int32) by decide), if_neg (show ¬ (5 : Int32) = (1 : Int32) by decide), if_neg (show ¬ (5 : Int32) = (2 : Int32) by decide), if_neg (show ¬ (5 : Int32) = (3 : Int32) by decide), if_neg (show ¬ (5 : Int32) = (4 : Int32) by decide), if_pos rfl, tr_weighing E1 hw]
    rfl
  · unfold rc5
    rw [E2]
    rfl
set_option maxRecDepth 100000 in
set_option maxHeartbeats 1000000 in
theorem call_6 {v : OBv} {z : RS} (h : RelO v z) (a b c : Int32) : ∃ x v' z', f_O_call v 6 a b c = some (x, v') ∧ rc6 z a b c = some (x, z') ∧ RelO v' z' := by
  obtain ⟨hT, hH, hS, hL1, hL2⟩ := h
  obtain ⟨k, v1', v2', vh', vr', w, x, u', r', d', E1, E2, hu, hw, T, H⟩ := hide_eq (u := uZ z.1) hH hT VO a b
  refine ⟨cod IDX ARG k x, (v.1, v1', v2', v.2.2.2.1, v.2.2.2.2.1, v.2.2.2.2.2.1, v.2.2.2.2.2.2.1, vh', vr', v.2.2.2.2.2.2.2.2.2.1, v.2.2.2.2.2.2.2.2.2.2.1, v.2.2.2.2.2.2.2.2.2.2.2.1, v.2.2.2.2.2.2.2.2.2.2.2.2.1, v.2.2.2.2.2.2.2.2.2.2.2.2.2.1, v.2.2.2.2.2.2.2.2.2.2.2.2.2.2.1, v.2.2.2.2.2.2.2.2.2.2.2.2.2.2.2.1, v.2.2.2.2.2.2.2.2.2.2.2.2.2.2.2.2.1, v.2.2.2.2.2.2.2.2.2.2.2.2.2.2.2.2.2), (u'.2.2.1, r', d', z.2.2.2), ?_, ?_, ⟨T, H, hS, hL1, hL2⟩⟩
  · unfold f_O_call f_L_call
    rw [if_neg (show ¬ (6 : Int32) = (0 : Int32) by decide), if_neg (show ¬ (6 : Int32) = (1 : Int32) by decide), if_neg (show ¬ (6 : Int32) = (2 : Int32) by decide), if_neg (show ¬ (6 : Int32) = (3 : Int32) by decide), if_neg (show ¬ (6 : Int32) = (4 : Int32) by decide), if_neg (show ¬ (6 : Int32) = (5 : Int32) by decide), if_pos rfl, tr_hide E1 hw]
    rfl
  · unfold rc6
    rw [E2, Option.bind_some, ← hu.1]
set_option maxRecDepth 100000 in
set_option maxHeartbeats 1000000 in
theorem call_7 {v : OBv} {z : RS} (h : RelO v z) (a b c : Int32) : ∃ x v' z', f_O_call v 7 a b c = some (x, v') ∧ rc7 z a b c = some (x, z') ∧ RelO v' z' := by
  obtain ⟨hT, hH, hS, hL1, hL2⟩ := h
  obtain ⟨k, v1', vh', vr', w, x, u', r', d', E1, E2, hu, hw, T, H⟩ := arms_eq (u := uZ z.1) hH hT VO a b
  refine ⟨cod ARG 0 k x, (v.1, v1', v.2.2.1, v.2.2.2.1, v.2.2.2.2.1, v.2.2.2.2.2.1, v.2.2.2.2.2.2.1, vh', vr', v.2.2.2.2.2.2.2.2.2.1, v.2.2.2.2.2.2.2.2.2.2.1, v.2.2.2.2.2.2.2.2.2.2.2.1, v.2.2.2.2.2.2.2.2.2.2.2.2.1, v.2.2.2.2.2.2.2.2.2.2.2.2.2.1, v.2.2.2.2.2.2.2.2.2.2.2.2.2.2.1, v.2.2.2.2.2.2.2.2.2.2.2.2.2.2.2.1, v.2.2.2.2.2.2.2.2.2.2.2.2.2.2.2.2.1, v.2.2.2.2.2.2.2.2.2.2.2.2.2.2.2.2.2), (u'.2.2.1, r', d', z.2.2.2), ?_, ?_, ⟨T, H, hS, hL1, hL2⟩⟩
  · unfold f_O_call f_L_call
    rw [if_neg (show ¬ (7 : Int32) = (0 : Int32) by decide), if_neg (show ¬ (7 : Int32) = (1 : Int32) by decide), if_neg (show ¬ (7 : Int32) = (2 : Int32) by decide), if_neg (show ¬ (7 : Int32) = (3 : Int32) by decide), if_neg (show ¬ (7 : Int32) = (4 : Int32) by decide), if_neg (show ¬ (7 : Int32) = (5 : Int32) by decide), if_neg (show ¬ (7 : Int32) = (6 : Int32) by decide), if_pos rfl, tr_arms E1 hw]
    rfl
  · unfold rc7
    rw [E2, Option.bind_some, ← hu.1]
set_option maxRecDepth 100000 in
set_option maxHeartbeats 1000000 in
theorem call_8 {v : OBv} {z : RS} (h : RelO v z) (a b c : Int32) : ∃ x v' z', f_O_call v 8 a b c = some (x, v') ∧ rc8 z a b c = some (x, z') ∧ RelO v' z' := by
  obtain ⟨hT, hH, hS, hL1, hL2⟩ := h
  obtain ⟨k, v1', v2', v3', vh', vr', w, x, u', r', d', E1, E2, hu, hw, T, H⟩ := weigh_eq (u := uZ z.1) hH hT v.2.2.2.1 VO a b
  refine ⟨cod ARG STA k x, (v.1, v1', v2', v3', v.2.2.2.2.1, v.2.2.2.2.2.1, v.2.2.2.2.2.2.1, vh', vr', v.2.2.2.2.2.2.2.2.2.1, v.2.2.2.2.2.2.2.2.2.2.1, v.2.2.2.2.2.2.2.2.2.2.2.1, v.2.2.2.2.2.2.2.2.2.2.2.2.1, v.2.2.2.2.2.2.2.2.2.2.2.2.2.1, v.2.2.2.2.2.2.2.2.2.2.2.2.2.2.1, v.2.2.2.2.2.2.2.2.2.2.2.2.2.2.2.1, v.2.2.2.2.2.2.2.2.2.2.2.2.2.2.2.2.1, v.2.2.2.2.2.2.2.2.2.2.2.2.2.2.2.2.2), (u'.2.2.1, r', d', z.2.2.2), ?_, ?_, ⟨T, H, hS, hL1, hL2⟩⟩
  · unfold f_O_call f_L_call
    rw [if_neg (show ¬ (8 : Int32) = (0 : Int32) by decide), if_neg (show ¬ (8 : Int32) = (1 : Int32) by decide), if_neg (show ¬ (8 : Int32) = (2 : Int32) by decide), if_neg (show ¬ (8 : Int32) = (3 : Int32) by decide), if_neg (show ¬ (8 : Int32) = (4 : Int32) by decide), if_neg (show ¬ (8 : Int32) = (5 : Int32) by decide), if_neg (show ¬ (8 : Int32) = (6 : Int32) by decide), if_neg (show ¬ (8 : Int32) = (7 : Int32) by decide), if_pos rfl, tr_weigh E1 hw]
    rfl
  · unfold rc8
    rw [E2, Option.bind_some, ← hu.1]
set_option maxRecDepth 100000 in
set_option maxHeartbeats 1000000 in
theorem call_9 {v : OBv} {z : RS} (h : RelO v z) (a b c : Int32) : ∃ x v' z', f_O_call v 9 a b c = some (x, v') ∧ rc9 z a b c = some (x, z') ∧ RelO v' z' := by
  obtain ⟨hT, hH, hS, hL1, hL2⟩ := h
  obtain ⟨k, v1', vh', vr', w, x, u', r', d', E1, E2, hu, hw, T, H⟩ := accusePan_eq (u := uZ z.1) hH hT VO a
  refine ⟨cod ARG 0 k x, (v.1, v1', v.2.2.1, v.2.2.2.1, v.2.2.2.2.1, v.2.2.2.2.2.1, v.2.2.2.2.2.2.1, vh', vr', v.2.2.2.2.2.2.2.2.2.1, v.2.2.2.2.2.2.2.2.2.2.1, v.2.2.2.2.2.2.2.2.2.2.2.1, v.2.2.2.2.2.2.2.2.2.2.2.2.1, v.2.2.2.2.2.2.2.2.2.2.2.2.2.1, v.2.2.2.2.2.2.2.2.2.2.2.2.2.2.1, v.2.2.2.2.2.2.2.2.2.2.2.2.2.2.2.1, v.2.2.2.2.2.2.2.2.2.2.2.2.2.2.2.2.1, v.2.2.2.2.2.2.2.2.2.2.2.2.2.2.2.2.2), (u'.2.2.1, r', d', z.2.2.2), ?_, ?_, ⟨T, H, hS, hL1, hL2⟩⟩
  · unfold f_O_call f_L_call
    rw [if_neg (show ¬ (9 : Int32) = (0 : Int32) by decide), if_neg (show ¬ (9 : Int32) = (1 : Int32) by decide), if_neg (show ¬ (9 : Int32) = (2 : Int32) by decide), if_neg (show ¬ (9 : Int32) = (3 : Int32) by decide), if_neg (show ¬ (9 : Int32) = (4 : Int32) by decide), if_neg (show ¬ (9 : Int32) = (5 : Int32) by decide), if_neg (show ¬ (9 : Int32) = (6 : Int32) by decide), if_neg (show ¬ (9 : Int32) = (7 : Int32) by decide), if_neg (show ¬ (9 : Int32) = (8 : Int32) by decide), if_pos rfl, tr_accusePan E1 hw]
    rfl
  · unfold rc9
    rw [E2, Option.bind_some, ← hu.1]
set_option maxRecDepth 100000 in
set_option maxHeartbeats 1000000 in
theorem call_10 {v : OBv} {z : RS} (h : RelO v z) (a b c : Int32) : ∃ x v' z', f_O_call v 10 a b c = some (x, v') ∧ rc10 z a b c = some (x, z') ∧ RelO v' z' := by
  obtain ⟨hT, hH, hS, hL1, hL2⟩ := h
  obtain ⟨k, v1', v2', v3', vh', vr', w, x, u', r', d', E1, E2, hu, hw, T, H⟩ := forget_eq (u := uZ z.1) hH hT v.2.2.2.1 VO 
  refine ⟨cod STA 0 k x, (v.1, v1', v2', v3', v.2.2.2.2.1, v.2.2.2.2.2.1, v.2.2.2.2.2.2.1, vh', vr', v.2.2.2.2.2.2.2.2.2.1, v.2.2.2.2.2.2.2.2.2.2.1, v.2.2.2.2.2.2.2.2.2.2.2.1, v.2.2.2.2.2.2.2.2.2.2.2.2.1, v.2.2.2.2.2.2.2.2.2.2.2.2.2.1, v.2.2.2.2.2.2.2.2.2.2.2.2.2.2.1, v.2.2.2.2.2.2.2.2.2.2.2.2.2.2.2.1, v.2.2.2.2.2.2.2.2.2.2.2.2.2.2.2.2.1, v.2.2.2.2.2.2.2.2.2.2.2.2.2.2.2.2.2), (u'.2.2.1, r', d', z.2.2.2), ?_, ?_, ⟨T, H, hS, hL1, hL2⟩⟩
  · unfold f_O_call f_L_call
    rw [if_neg (show ¬ (10 : Int32) = (0 : Int32) by decide), if_neg (show ¬ (10 : Int32) = (1 : Int32) by decide), if_neg (show ¬ (10 : Int32) = (2 : Int32) by decide), if_neg (show ¬ (10 : Int32) = (3 : Int32) by decide), if_neg (show ¬ (10 : Int32) = (4 : Int32) by decide), if_neg (show ¬ (10 : Int32) = (5 : Int32) by decide), if_neg (show ¬ (10 : Int32) = (6 : Int32) by decide), if_neg (show ¬ (10 : Int32) = (7 : Int32) by decide), if_neg (show ¬ (10 : Int32) = (8 : Int32) by decide), if_neg (show ¬ (10 : Int32) = (9 : Int32) by decide), if_pos rfl, tr_forget E1 hw]
    rfl
  · unfold rc10
    rw [E2, Option.bind_some, ← hu.1]
set_option maxRecDepth 100000 in
set_option maxHeartbeats 1000000 in
theorem call_11 {v : OBv} {z : RS} (h : RelO v z) (a b c : Int32) : ∃ x v' z', f_O_call v 11 a b c = some (x, v') ∧ rc11 z a b c = some (x, z') ∧ RelO v' z' := by
  obtain ⟨hT, hH, hS, hL1, hL2⟩ := h
  obtain ⟨k, v1', v2', vh', w, x, u', r', E1, E2, hu, -, hw, T, H⟩ := undo_eq (u := uZ z.1) hH hT VO
  refine ⟨cod STA 0 k x, (v.1, v1', v2', v.2.2.2.1, v.2.2.2.2.1, v.2.2.2.2.2.1, v.2.2.2.2.2.2.1, vh', v.2.2.2.2.2.2.2.2.1, v.2.2.2.2.2.2.2.2.2.1, v.2.2.2.2.2.2.2.2.2.2.1, v.2.2.2.2.2.2.2.2.2.2.2.1, v.2.2.2.2.2.2.2.2.2.2.2.2.1, v.2.2.2.2.2.2.2.2.2.2.2.2.2.1, v.2.2.2.2.2.2.2.2.2.2.2.2.2.2.1, v.2.2.2.2.2.2.2.2.2.2.2.2.2.2.2.1, v.2.2.2.2.2.2.2.2.2.2.2.2.2.2.2.2.1, v.2.2.2.2.2.2.2.2.2.2.2.2.2.2.2.2.2), (u'.2.2.1, r', z.2.2), ?_, ?_, ⟨T, H, hS, hL1, hL2⟩⟩
  · unfold f_O_call f_L_call
    rw [if_neg (show ¬ (11 : Int32) = (0 : Int32) by decide), if_neg (show ¬ (11 : Int32) = (1 : Int32) by decide), if_neg (show ¬ (11 : Int32) = (2 : Int32) by decide), if_neg (show ¬ (11 : Int32) = (3 : Int32) by decide), if_neg (show ¬ (11 : Int32) = (4 : Int32) by decide), if_neg (show ¬ (11 : Int32) = (5 : Int32) by decide), if_neg (show ¬ (11 : Int32) = (6 : Int32) by decide), if_neg (show ¬ (11 : Int32) = (7 : Int32) by decide), if_neg (show ¬ (11 : Int32) = (8 : Int32) by decide), if_neg (show ¬ (11 : Int32) = (9 : Int32) by decide), if_neg (show ¬ (11 : Int32) = (10 : Int32) by decide), if_pos rfl, tr_undo E1 hw]
    rfl
  · unfold rc11
    rw [E2, Option.bind_some, ← hu]
set_option maxRecDepth 100000 in
set_option maxHeartbeats 1000000 in
theorem call_12 {v : OBv} {z : RS} (h : RelO v z) (a b c : Int32) : ∃ x v' z', f_O_call v 12 a b c = some (x, v') ∧ rc12 z a b c = some (x, z') ∧ RelO v' z' := by
  obtain ⟨hT, hH, hS, hL1, hL2⟩ := h
  obtain ⟨k, v3', v13', w, x, u', u7', u8', E1, E2, hu, hw⟩ := leaves_eq hT v.2.2.2.1 v.2.2.2.2.2.2.2.2.2.2.2.2.2.2.2.1 (uZ z.1) Z0 Z0 VO a b c
  refine ⟨cod IDX ARG k x, (v.1, v.2.1, v.2.2.1, v3', v.2.2.2.2.1, v.2.2.2.2.2.1, v.2.2.2.2.2.2.1, v.2.2.2.2.2.2.2.1, v.2.2.2.2.2.2.2.2.1, v.2.2.2.2.2.2.2.2.2.1, v.2.2.2.2.2.2.2.2.2.2.1, v.2.2.2.2.2.2.2.2.2.2.2.1, v.2.2.2.2.2.2.2.2.2.2.2.2.1, v.2.2.2.2.2.2.2.2.2.2.2.2.2.1, v.2.2.2.2.2.2.2.2.2.2.2.2.2.2.1, v13', v.2.2.2.2.2.2.2.2.2.2.2.2.2.2.2.2.1, v.2.2.2.2.2.2.2.2.2.2.2.2.2.2.2.2.2), z, ?_, ?_, ⟨hT, hH, hS, hL1, hL2⟩⟩
  · unfold f_O_call f_L_call
    rw [if_neg (show ¬ (12 : Int32) = (0 : Int32) by decide), if_neg (show ¬ (12 : Int32) = (1 : Int32) by decide), if_neg (show ¬ (12 : Int32) = (2 : Int32) by decide), if_neg (show ¬ (12 : Int32) = (3 : Int32) by decide), if_neg (show ¬ (12 : Int32) = (4 : Int32) by decide), if_neg (show ¬ (12 : Int32) = (5 : Int32) by decide), if_neg (show ¬ (12 : Int32) = (6 : Int32) by decide), if_neg (show ¬ (12 : Int32) = (7 : Int32) by decide), if_neg (show ¬ (12 : Int32) = (8 : Int32) by decide), if_neg (show ¬ (12 : Int32) = (9 : Int32) by decide), if_neg (show ¬ (12 : Int32) = (10 : Int32) by decide), if_neg (show ¬ (12 : Int32) = (11 : Int32) by decide), if_pos rfl, tr_leaves E1 hw]
    rfl
  · unfold rc12
    rw [E2, Option.bind_some, ← hu.1]
set_option maxRecDepth 100000 in
set_option maxHeartbeats 1000000 in
theorem call_13 {v : OBv} {z : RS} (h : RelO v z) (a b c : Int32) : ∃ x v' z', f_O_call v 13 a b c = some (x, v') ∧ rc13 z a b c = some (x, z') ∧ RelO v' z' := by
  obtain ⟨hT, hH, hS, hL1, hL2⟩ := h
  obtain ⟨k, v3', v13', w, x, u', u7', u8', E1, E2, hu, hw⟩ := best_eq hT hL1 hL2 v.2.2.2.1 v.2.2.2.2.2.2.2.2.2.2.2.2.2.2.2.1 (uZ z.1) Z0 Z0 VO a b
  refine ⟨cod ARG 0 k x, (v.1, v.2.1, v.2.2.1, v3', v.2.2.2.2.1, v.2.2.2.2.2.1, v.2.2.2.2.2.2.1, v.2.2.2.2.2.2.2.1, v.2.2.2.2.2.2.2.2.1, v.2.2.2.2.2.2.2.2.2.1, v.2.2.2.2.2.2.2.2.2.2.1, v.2.2.2.2.2.2.2.2.2.2.2.1, v.2.2.2.2.2.2.2.2.2.2.2.2.1, v.2.2.2.2.2.2.2.2.2.2.2.2.2.1, v.2.2.2.2.2.2.2.2.2.2.2.2.2.2.1, v13', v.2.2.2.2.2.2.2.2.2.2.2.2.2.2.2.2.1, v.2.2.2.2.2.2.2.2.2.2.2.2.2.2.2.2.2), z, ?_, ?_, ⟨hT, hH, hS, hL1, hL2⟩⟩
  · unfold f_O_call f_L_call
    rw [if_neg (show ¬ (13 : Int32) = (0 : Int32) by decide), if_neg (show ¬ (13 : Int32) = (1 : Int32) by decide), if_neg (show ¬ (13 : Int32) = (2 : Int32) by decide), if_neg (show ¬ (13 : Int32) = (3 : Int32) by decide), if_neg (show ¬ (13 : Int32) = (4 : Int32) by decide), if_neg (show ¬ (13 : Int32) = (5 : Int32) by decide), if_neg (show ¬ (13 : Int32) = (6 : Int32) by decide), if_neg (show ¬ (13 : Int32) = (7 : Int32) by decide), if_neg (show ¬ (13 : Int32) = (8 : Int32) by decide), if_neg (show ¬ (13 : Int32) = (9 : Int32) by decide), if_neg (show ¬ (13 : Int32) = (10 : Int32) by decide), if_neg (show ¬ (13 : Int32) = (11 : Int32) by decide), if_neg (show ¬ (13 : Int32) = (12 : Int32) by decide), if_pos rfl, tr_best E1 hw]
    rfl
  · unfold rc13
    rw [E2, Option.bind_some, ← hu.1]
set_option maxRecDepth 100000 in
set_option maxHeartbeats 1000000 in
theorem call_14 {v : OBv} {z : RS} (h : RelO v z) (a b c : Int32) : ∃ x v' z', f_O_call v 14 a b c = some (x, v') ∧ rc14 z a b c = some (x, z') ∧ RelO v' z' := by
  obtain ⟨hT, hH, hS, hL1, hL2⟩ := h
  obtain ⟨k, v3', v13', w, x, u', u7', u8', E1, E2, hu, hw⟩ := bestArms_eq hT v.2.2.2.1 v.2.2.2.2.2.2.2.2.2.2.2.2.2.2.2.1 (uZ z.1) Z0 Z0 VO a b
  refine ⟨cod ARG 0 k x, (v.1, v.2.1, v.2.2.1, v3', v.2.2.2.2.1, v.2.2.2.2.2.1, v.2.2.2.2.2.2.1, v.2.2.2.2.2.2.2.1, v.2.2.2.2.2.2.2.2.1, v.2.2.2.2.2.2.2.2.2.1, v.2.2.2.2.2.2.2.2.2.2.1, v.2.2.2.2.2.2.2.2.2.2.2.1, v.2.2.2.2.2.2.2.2.2.2.2.2.1, v.2.2.2.2.2.2.2.2.2.2.2.2.2.1, v.2.2.2.2.2.2.2.2.2.2.2.2.2.2.1, v13', v.2.2.2.2.2.2.2.2.2.2.2.2.2.2.2.2.1, v.2.2.2.2.2.2.2.2.2.2.2.2.2.2.2.2.2), z, ?_, ?_, ⟨hT, hH, hS, hL1, hL2⟩⟩
  · unfold f_O_call f_L_call
    rw [if_neg (show ¬ (14 : Int32) = (0 : Int32) by decide), if_neg (show ¬ (14 : Int32) = (1 : Int32) by decide), if_neg (show ¬ (14 : Int32) = (2 : Int32) by decide), if_neg (show ¬ (14 : Int32) = (3 : Int32) by decide), if_neg (show ¬ (14 : Int32) = (4 : Int32) by decide), if_neg (show ¬ (14 : Int32) = (5 : Int32) by decide), if_neg (show ¬ (14 : Int32) = (6 : Int32) by decide), if_neg (show ¬ (14 : Int32) = (7 : Int32) by decide), if_neg (show ¬ (14 : Int32) = (8 : Int32) by decide), if_neg (show ¬ (14 : Int32) = (9 : Int32) by decide), if_neg (show ¬ (14 : Int32) = (10 : Int32) by decide), if_neg (show ¬ (14 : Int32) = (11 : Int32) by decide), if_neg (show ¬ (14 : Int32) = (12 : Int32) by decide), if_neg (show ¬ (14 : Int32) = (13 : Int32) by decide), if_pos rfl, tr_bestArms E1 hw]
    rfl
  · unfold rc14
    rw [E2, Option.bind_some, ← hu.1]
set_option maxRecDepth 100000 in
set_option maxHeartbeats 1000000 in
theorem call_15 {v : OBv} {z : RS} (h : RelO v z) (a b c : Int32) : ∃ x v' z', f_O_call v 15 a b c = some (x, v') ∧ rc15 z a b c = some (x, z') ∧ RelO v' z' := by
  obtain ⟨hT, hH, hS, hL1, hL2⟩ := h
  obtain ⟨k, v7', v8', v9', v10', v11', v12', w, x, u', u5', u6', E1, E2, hu, hw, SS⟩ := save_eq hT hS (uZ z.1) VO a
  refine ⟨cod IDX 0 k x, (v.1, v.2.1, v.2.2.1, v.2.2.2.1, v.2.2.2.2.1, v.2.2.2.2.2.1, v.2.2.2.2.2.2.1, v.2.2.2.2.2.2.2.1, v.2.2.2.2.2.2.2.2.1, v7', v8', v9', v10', v11', v12', v.2.2.2.2.2.2.2.2.2.2.2.2.2.2.2.1, v.2.2.2.2.2.2.2.2.2.2.2.2.2.2.2.2.1, v.2.2.2.2.2.2.2.2.2.2.2.2.2.2.2.2.2), (z.1, z.2.1, z.2.2.1, u5', u6'), ?_, ?_, ⟨hT, hH, SS, hL1, hL2⟩⟩
  · unfold f_O_call f_L_call
    rw [if_neg (show ¬ (15 : Int32) = (0 : Int32) by decide), if_neg (show ¬ (15 : Int32) = (1 : Int32) by decide), if_neg (show ¬ (15 : Int32) = (2 : Int32) by decide), if_neg (show ¬ (15 : Int32) = (3 : Int32) by decide), if_neg (show ¬ (15 : Int32) = (4 : Int32) by decide), if_neg (show ¬ (15 : Int32) = (5 : Int32) by decide), if_neg (show ¬ (15 : Int32) = (6 : Int32) by decide), if_neg (show ¬ (15 : Int32) = (7 : Int32) by decide), if_neg (show ¬ (15 : Int32) = (8 : Int32) by decide), if_neg (show ¬ (15 : Int32) = (9 : Int32) by decide), if_neg (show ¬ (15 : Int32) = (10 : Int32) by decide), if_neg (show ¬ (15 : Int32) = (11 : Int32) by decide), if_neg (show ¬ (15 : Int32) = (12 : Int32) by decide), if_neg (show ¬ (15 : Int32) = (13 : Int32) by decide), if_neg (show ¬ (15 : Int32) = (14 : Int32) by decide), if_pos rfl, tr_save E1 hw]
    rfl
  · unfold rc15
    rw [E2, Option.bind_some, ← hu.1]
set_option maxRecDepth 100000 in
set_option maxHeartbeats 1000000 in
theorem call_16 {v : OBv} {z : RS} (h : RelO v z) (a b c : Int32) : ∃ x v' z', f_O_call v 16 a b c = some (x, v') ∧ rc16 z a b c = some (x, z') ∧ RelO v' z' := by
  obtain ⟨hT, hH, hS, hL1, hL2⟩ := h
  obtain ⟨k, v1', v2', vh', w, x, u', r', E1, E2, hu, hw, T, H⟩ := restore_eq (u := uZ z.1) hT hS hH VO a
  refine ⟨cod IDX STA k x, (v.1, v1', v2', v.2.2.2.1, v.2.2.2.2.1, v.2.2.2.2.2.1, v.2.2.2.2.2.2.1, vh', v.2.2.2.2.2.2.2.2.1, v.2.2.2.2.2.2.2.2.2.1, v.2.2.2.2.2.2.2.2.2.2.1, v.2.2.2.2.2.2.2.2.2.2.2.1, v.2.2.2.2.2.2.2.2.2.2.2.2.1, v.2.2.2.2.2.2.2.2.2.2.2.2.2.1, v.2.2.2.2.2.2.2.2.2.2.2.2.2.2.1, v.2.2.2.2.2.2.2.2.2.2.2.2.2.2.2.1, v.2.2.2.2.2.2.2.2.2.2.2.2.2.2.2.2.1, v.2.2.2.2.2.2.2.2.2.2.2.2.2.2.2.2.2), (u'.2.2.1, r', z.2.2), ?_, ?_, ⟨T, H, hS, hL1, hL2⟩⟩
  · unfold f_O_call f_L_call
    rw [if_neg (show ¬ (16 : Int32) = (0 : Int32) by decide), if_neg (show ¬ (16 : Int32) = (1 : Int32) by decide), if_neg (show ¬ (16 : Int32) = (2 : Int32) by decide), if_neg (show ¬ (16 : Int32) = (3 : Int32) by decide), if_neg (show ¬ (16 : Int32) = (4 : Int32) by decide), if_neg (show ¬ (16 : Int32) = (5 : Int32) by decide), if_neg (show ¬ (16 : Int32) = (6 : Int32) by decide), if_neg (show ¬ (16 : Int32) = (7 : Int32) by decide), if_neg (show ¬ (16 : Int32) = (8 : Int32) by decide), if_neg (show ¬ (16 : Int32) = (9 : Int32) by decide), if_neg (show ¬ (16 : Int32) = (10 : Int32) by decide), if_neg (show ¬ (16 : Int32) = (11 : Int32) by decide), if_neg (show ¬ (16 : Int32) = (12 : Int32) by decide), if_neg (show ¬ (16 : Int32) = (13 : Int32) by decide), if_neg (show ¬ (16 : Int32) = (14 : Int32) by decide), if_neg (show ¬ (16 : Int32) = (15 : Int32) by decide), tr_restore E1 hw]
    rfl
  · unfold rc16
    rw [E2, Option.bind_some, ← hu.1]
set_option maxRecDepth 100000 in
set_option maxHeartbeats 1000000 in
theorem call_acc {v : OBv} {z : RS} (h : RelO v z) (a : Int32) (y : Bool) : ∃ x v' z', f_O_accuses v a y = some (x, v') ∧ rcAcc z a y = some (x, z') ∧ RelO v' z' := by
  obtain ⟨hT, hH, hS, hL1, hL2⟩ := h
  obtain ⟨k, v1', vh', vr', w, x, u', r', d', E1, E2, hu, hw, T, H⟩ := accuse_eq (u := uZ z.1) hH hT VO a y
  refine ⟨cod IDX 0 k x, (v.1, v1', v.2.2.1, v.2.2.2.1, v.2.2.2.2.1, v.2.2.2.2.2.1, v.2.2.2.2.2.2.1, vh', vr', v.2.2.2.2.2.2.2.2.2.1, v.2.2.2.2.2.2.2.2.2.2.1, v.2.2.2.2.2.2.2.2.2.2.2.1, v.2.2.2.2.2.2.2.2.2.2.2.2.1, v.2.2.2.2.2.2.2.2.2.2.2.2.2.1, v.2.2.2.2.2.2.2.2.2.2.2.2.2.2.1, v.2.2.2.2.2.2.2.2.2.2.2.2.2.2.2.1, v.2.2.2.2.2.2.2.2.2.2.2.2.2.2.2.2.1, v.2.2.2.2.2.2.2.2.2.2.2.2.2.2.2.2.2), (u'.2.2.1, r', d', z.2.2.2), ?_, ?_, ⟨T, H, hS, hL1, hL2⟩⟩
  · unfold f_O_accuses
    rw [tr_accuse E1 hw]
    rfl
  · unfold rcAcc
    rw [E2, Option.bind_some, ← hu.1]
set_option maxRecDepth 100000 in
set_option maxHeartbeats 1000000 in
theorem call_sim {v : OBv} {z : RS} (h : RelO v z) (s : Int64) (m : Int32) : ∃ x v' z', f_O_doSimulate v s m = some (x, v') ∧ rcSim z s m = some (x, z') ∧ RelO v' z' := by
  obtain ⟨hT, hH, hS, hL1, hL2⟩ := h
  obtain ⟨k, v4', v5', v6', w, x, u3', E1, E2, hw⟩ := sim_eq hT v.2.2.2.2.1 v.2.2.2.2.2.1 v.2.2.2.2.2.2.1 VO (uZ z.1) Z0 s m
  refine ⟨cod ARG 0 k x, (v.1, v.2.1, v.2.2.1, v.2.2.2.1, v4', v5', v6', v.2.2.2.2.2.2.2.1, v.2.2.2.2.2.2.2.2.1, v.2.2.2.2.2.2.2.2.2.1, v.2.2.2.2.2.2.2.2.2.2.1, v.2.2.2.2.2.2.2.2.2.2.2.1, v.2.2.2.2.2.2.2.2.2.2.2.2.1, v.2.2.2.2.2.2.2.2.2.2.2.2.2.1, v.2.2.2.2.2.2.2.2.2.2.2.2.2.2.1, v.2.2.2.2.2.2.2.2.2.2.2.2.2.2.2.1, v.2.2.2.2.2.2.2.2.2.2.2.2.2.2.2.2.1, v.2.2.2.2.2.2.2.2.2.2.2.2.2.2.2.2.2), z, ?_, ?_, ⟨hT, hH, hS, hL1, hL2⟩⟩
  · unfold f_O_doSimulate
    rw [tr_simulate E1 hw]
    rfl
  · unfold rcSim
    rw [E2]
    rfl
