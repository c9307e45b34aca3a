/-! ===== the frame: one list of words for all methods; groups of cells; a judgement that speaks of no heap ===== -/
def wG : List Cond := lw_tbl.filter goodWord
theorem wG_in {w : Cond} (i : Nat) (h : lw_tbl[i]? = some w) (hg : goodWord w = true) : w ∈ wG := List.mem_filter.mpr ⟨List.mem_of_getElem? h, hg⟩
theorem wG_tbl : ∀ w ∈ wG, w ∈ lw_tbl := fun _ h => (List.mem_filter.mp h).1
theorem wG_good : ∀ w ∈ wG, (w.onTables && w.keeps) = true ∨ ∃ ty, w = .arrayClass ty := fun _ h => good_of_word (List.mem_filter.mp h).2
/-- a method's words: its own code first, then all -/
def gW (y : MethodName) (cc : ByteArray) (maxL : Nat) (ret : Option FieldType) : List Cond := .code y cc maxL ret :: wG
theorem gW_good {y : MethodName} {cc : ByteArray} {maxL : Nat} {ret : Option FieldType} (h : Cond.code y cc maxL ret ∈ wG) : GoodIn wG (gW y cc maxL ret) := by
  intro w hw
  rcases List.mem_cons.mp hw with rfl | hw
  · exact ⟨h, wG_good _ h⟩
  · exact ⟨hw, wG_good _ hw⟩
/-- the classes of the arrays: int, char, Table; the places 2 and 4 are not used -/
abbrev tyG (cy : Nat → ClassId) : List (ClassId × FieldType) := [(cy 0, .int), (cy 1, .char), (cy 2, .int), (cy 3, .object "FalsePan$Table"), (cy 4, .int)]
/-- a list's place in the list of all groups -/
theorem fl_get {α : Type} : ∀ (gs : List (List α)) (g k : Nat) {gl : List α} {x : α}, gs[g]? = some gl → gl[k]? = some x → ∃ i, gs.flatten[i]? = some x ∧ ∀ y, (gs.set g (gl.set k y)).flatten = gs.flatten.set i y
  | [], g, k, gl, x, h, _ => by simp at h
  | a :: gs, 0, k, gl, x, h, h2 => by
    simp only [List.getElem?_cons_zero, Option.some.injEq] at h
    subst h
    have hk : k < a.length := (List.getElem?_eq_some_iff.mp h2).1
    refine ⟨k, by rw [List.flatten_cons, List.getElem?_append_left hk]; exact h2, fun y => ?_⟩
    rw [List.set_cons_zero, List.flatten_cons, List.flatten_cons, List.set_append_left _ _ hk]
  | a :: gs, g + 1, k, gl, x, h, h2 => by
    rw [List.getElem?_cons_succ] at h
    obtain ⟨i, h3, h4⟩ := fl_get gs g k h h2
    refine ⟨a.length + i, by rw [List.flatten_cons, List.getElem?_append_right (Nat.le_add_right _ _), Nat.add_sub_cancel_left]; exact h3, fun y => ?_⟩
    rw [List.set_cons_succ, List.flatten_cons, List.flatten_cons, h4 y, List.set_append_right _ _ (Nat.le_add_right _ _), Nat.add_sub_cancel_left]
/-- worlds up to their order -/
theorem gp_P {D : va_G} {cl : List vw_C} {w1 w2 : va_W} {H : Heap} (hp : w1.Perm w2) (h : va_P D cl w1 H) : va_P D cl w2 H := by
  intro k q hk
  obtain ⟨i, hi⟩ := List.getElem?_of_mem (hp.symm.subset (List.mem_of_getElem? hk))
  exact h i q hi
theorem gp_nd : ∀ (w : List Nat), w.Nodup ↔ ∀ i j a : Nat, w[i]? = some a → w[j]? = some a → i = j
  | [] => ⟨fun _ i j a h => by simp at h, fun _ => List.nodup_nil⟩
  | b :: w => by
    rw [List.nodup_cons, gp_nd w]
    refine ⟨fun ⟨h1, h2⟩ i j a hi hj => ?_, fun h => ⟨fun hb => ?_, fun i j a hi hj => ?_⟩⟩
    · cases i with
      | zero =>
        cases j with
        | zero => rfl
        | succ j =>
          rw [List.getElem?_cons_zero] at hi
          rw [List.getElem?_cons_succ] at hj
          cases hi
          exact absurd (List.mem_of_getElem? hj) h1
      | succ i =>
        rw [List.getElem?_cons_succ] at hi
        cases j with
        | zero =>
          rw [List.getElem?_cons_zero] at hj
          cases hj
          exact absurd (List.mem_of_getElem? hi) h1
        | succ j =>
          rw [List.getElem?_cons_succ] at hj
          rw [h2 i j a hi hj]
    · obtain ⟨i, hi⟩ := List.getElem?_of_mem hb
      have := h 0 (i + 1) b (List.getElem?_cons_zero) (by rw [List.getElem?_cons_succ]; exact hi)
      omega
    · have := h (i + 1) (j + 1) a (by rw [List.getElem?_cons_succ]; exact hi) (by rw [List.getElem?_cons_succ]; exact hj)
      omega
theorem gp_iff {A : Nat → Prop} {w : va_W} : va_D A w ↔ (w.map Prod.fst).Nodup ∧ ∀ q ∈ w, A q.1 := by
  rw [gp_nd]
  refine ⟨fun h => ⟨fun i j a hi hj => ?_, fun q hq => ?_⟩, fun h => ⟨fun i j p q hi hj hpq => ?_, fun k q hk => h.2 q (List.mem_of_getElem? hk)⟩⟩
  · rw [List.getElem?_map] at hi hj
    cases h1 : w[i]? with
    | none => rw [h1] at hi; cases hi
    | some p =>
      cases h2 : w[j]? with
      | none => rw [h2] at hj; cases hj
      | some q =>
        rw [h1] at hi
        rw [h2] at hj
        exact h.1 i j p q h1 h2 ((Option.some.inj hi).trans (Option.some.inj hj).symm)
  · obtain ⟨i, hi⟩ := List.getElem?_of_mem hq
    exact h.2 i q hi
  · exact h.1 i j p.1 (by rw [List.getElem?_map, hi]; rfl) (by rw [List.getElem?_map, hj, hpq]; rfl)
theorem gp_D {A : Nat → Prop} {w1 w2 : va_W} (hp : w1.Perm w2) (h : va_D A w1) : va_D A w2 := by
  rw [gp_iff] at h ⊢
  exact ⟨(hp.map Prod.fst).nodup_iff.mp h.1, fun q hq => h.2 q (hp.symm.subset hq)⟩
theorem gp_fl {α : Type} : ∀ {a b : List (List α)}, a.Perm b → a.flatten.Perm b.flatten := by
  intro a b h
  induction h with
  | nil => exact List.Perm.refl _
  | cons x _ ih => rw [List.flatten_cons, List.flatten_cons]; exact List.Perm.append_left x ih
  | swap x y t => rw [List.flatten_cons, List.flatten_cons, List.flatten_cons, List.flatten_cons, ← List.append_assoc, ← List.append_assoc]; exact List.Perm.append_right _ List.perm_append_comm
  | trans _ _ h1 h2 => exact h1.trans h2
theorem gp_range {α : Type} : ∀ gs : List α, (List.range gs.length).filterMap (fun i => gs[i]?) = gs
  | [] => rfl
  | a :: gs => by
    rw [List.length_cons, List.range_succ_eq_map, List.filterMap_cons, List.getElem?_cons_zero]
    show a :: List.filterMap _ _ = a :: gs
    rw [List.filterMap_map]
    exact congrArg (fun l => a :: l) (gp_range gs)
/-- some places of a list, all of them, in any order -/
theorem gp_pick {α : Type} {gs out : List α} {is : List Nat} (hp : is.Perm (List.range gs.length)) (h : is.filterMap (fun i => gs[i]?) = out) : gs.Perm out := by
  subst h
  have h1 := (hp.filterMap (fun i => gs[i]?)).symm
  rw [gp_range] at h1
  exact h1
/-- behind a call: the callee's cells as they are now, and the rest -/
theorem gp_join {A : Nat → Prop} {D : va_G} {cl : List vw_C} {wc wr w1 : va_W} {H H1 : Heap} (hP : va_P D cl (wc ++ wr) H) (hD : va_D A (wc ++ wr))
    (hk : ∀ q : Nat, q < H.size → ¬ va_A wc H.size q → H1[q]? = H[q]?) (hF : ∀ q, va_A wc H.size q → A q) (hP1 : va_P D cl w1 H1) (hD1 : va_D (va_A wc H.size) w1) : va_P D cl (w1 ++ wr) H1 ∧ va_D A (w1 ++ wr) := by
  have hr : ∀ q ∈ wr, q.1 < H.size ∧ ¬ va_A wc H.size q.1 ∧ A q.1 := by
    intro q hq
    obtain ⟨i, hi⟩ := List.getElem?_of_mem hq
    have hi' : (wc ++ wr)[wc.length + i]? = some q := by rw [List.getElem?_append_right (Nat.le_add_right _ _), Nat.add_sub_cancel_left]; exact hi
    have hl := (hP _ q hi').lt
    refine ⟨hl, fun h => ?_, hD.2 _ q hi'⟩
    rcases h with ⟨k, e, h⟩ | h
    · have hk' : k < wc.length := (List.getElem?_eq_some_iff.mp h).1
      have := hD.1 k (wc.length + i) (q.1, e) q (by rw [List.getElem?_append_left hk']; exact h) hi' rfl
      omega
    · omega
  refine ⟨va_P.app hP1 (fun k q hq => ?_), ?_⟩
  · have hm := List.mem_of_getElem? hq
    obtain ⟨h1, h2, -⟩ := hr q hm
    have hi' : (wc ++ wr)[wc.length + k]? = some q := by rw [List.getElem?_append_right (Nat.le_add_right _ _), Nat.add_sub_cancel_left]; exact hq
    exact (hP _ q hi').kept (hk q.1 h1 h2)
  · rw [gp_iff] at hD hD1 ⊢
    rw [List.map_append, List.nodup_append] at hD ⊢
    refine ⟨⟨hD1.1, hD.1.2.1, fun a ha b hb hab => ?_⟩, fun q hq => ?_⟩
    · obtain ⟨q1, hq1, rfl⟩ := List.mem_map.mp ha
      obtain ⟨q2, hq2, rfl⟩ := List.mem_map.mp hb
      exact (hr q2 hq2).2.1 (hab ▸ hD1.2 q1 hq1)
    · rcases List.mem_append.mp hq with h | h
      · exact hF _ (hD1.2 q h)
      · exact (hr q h).2.2
/-! results that may be none -/
theorem oguard {α : Type} {c : Prop} {h : Decidable c} {o : Option α} {x : α} (hf : @ite _ c h none o = some x) : ¬ c ∧ o = some x := by
  by_cases hc : c
  · rw [if_pos hc] at hf; cases hf
  · rw [if_neg hc] at hf; exact ⟨hc, hf⟩
theorem obind {α β : Type} {o : Option α} {f : α → Option β} {x : β} (hf : o.bind f = some x) : ∃ q, o = some q ∧ f q = some x := by
  cases o with
  | none => cases hf
  | some q => exact ⟨q, rfl, hf⟩
theorem opos {α : Type} {c : Prop} {h : Decidable c} {a b : α} {x : α} (hc : c) (hf : @ite _ c h a b = x) : a = x := by rw [if_pos hc] at hf; exact hf
theorem oneg {α : Type} {c : Prop} {h : Decidable c} {a b : α} {x : α} (hc : ¬ c) (hf : @ite _ c h a b = x) : b = x := by rw [if_neg hc] at hf; exact hf
/-- a loop: the body goes on with a state, or leaves with an end -/
def itl {S E : Type} (f : S → Option (S ⊕ E)) : Nat → S → Option E
  | 0, _ => none
  | n + 1, s => (f s).bind (Sum.elim (itl f n) some)
theorem itl_ind {S E : Type} {f : S → Option (S ⊕ E)} {I : S → Prop} {J : E → Prop} (hs : ∀ s x, f s = some x → (∀ s', x = .inl s' → I s') → (∀ e', x = .inr e' → J e') → I s) : ∀ n s e, itl f n s = some e → J e → I s := by
  intro n
  induction n with
  | zero => intro s e h; cases h
  | succ n ih =>
    intro s e h hj
    obtain ⟨x, h1, h2⟩ := obind (o := f s) h
    cases x with
    | inl s1 => exact hs s _ h1 (fun s' hx => by cases hx; exact ih s1 e h2 hj) (fun e' hx => nomatch hx)
    | inr e1 => exact hs s _ h1 (fun s' hx => nomatch hx) (fun e' hx => by cases hx; cases h2; exact hj)
theorem sinl {S E α : Type} {f : S → α} {g : E → α} {q : S} {x : α} (h : Sum.elim f g (.inl q) = x) : f q = x := h
theorem sinr {S E α : Type} {f : S → α} {g : E → α} {q : E} {x : α} (h : Sum.elim f g (.inr q) = x) : g q = x := h
def FU : Nat := 6000
/-- 0 or 1 -/
def b2i (b : Bool) : Int32 := if b then 1 else 0
theorem b2i_nar (b : Bool) : narrow .boolean (.int (b2i b)) = .int (b2i b) := by cases b <;> decide
/-- which exception: 1 IllegalArgument, 2 IllegalState, 3 IndexOutOfBounds -/
def exN : Nat → String
  | 1 => "java/lang/IllegalArgumentException"
  | 2 => "java/lang/IllegalStateException"
  | _ => "java/lang/IndexOutOfBoundsException"
/-! what a method needs of cells that nobody writes: the literals, two statics of Throwable, one of String -/
def stTab : List (String × Nat × String × List Int32) := [("FalsePan$Text", 26, "P", [80]), ("FalsePan$Text", 39, "lht", [108, 104, 116]), ("FalsePan$Text", 47, "wa", [119, 97]), ("FalsePan$Text", 59, "v", [118]), ("FalsePan$Text", 64, ".", [46]), ("FalsePan", 69, "the character code is not 0 to 255", []), ("FalsePan", 80, "the text is full", []), ("FalsePan", 108, "the text is not a table", []), ("FalsePan", 176, "what is not 0 to 8", []), ("FalsePan", 184, "there is no such coin", []), ("FalsePan", 194, "there is no such case", []), ("FalsePan", 199, "there is no such weighing", []), ("FalsePan", 201, "what is not 0 to 5", []), ("FalsePan", 207, "the coins are not 3 to 12", []), ("FalsePan", 219, "an arm is not 1 to 20", []), ("FalsePan", 318, "these sets cannot be weighed", []), ("FalsePan", 227, "there are 20 weighings", []), ("FalsePan", 239, "the pan is not 0 to 2", []), ("FalsePan", 244, "there is no weighing", []), ("FalsePan", 251, "no state is remembered", []), ("FalsePan", 256, "there is no such outcome", []), ("FalsePan", 265, "j is not 1 or 2", []), ("FalsePan", 267, "what is not 0 to 2", []), ("FalsePan", 282, "n is not 1 to 3", []), ("FalsePan", 288, "the script is negative or too long", []), ("FalsePan", 298, "m is not 1 to 60", []), ("FalsePan", 308, "there is no such save slot", []), ("FalsePan", 313, "nothing has been saved in the slot", [])]
def stO (i : Nat) : String := (stTab.getD i ("", 0, "", [])).1
def stK (i : Nat) : Nat := (stTab.getD i ("", 0, "", [])).2.1
def stT (i : Nat) : String := (stTab.getD i ("", 0, "", [])).2.2.1
def stB (i : Nat) : List Int32 := (stTab.getD i ("", 0, "", [])).2.2.2
/-- calls of nest mates' private methods: who, place, method, host -/
def neTab : List (String × Nat × MethodName × String) := [("FalsePan", 9, yX6_init, "FalsePan"), ("FalsePan", 18, yX4_init, "FalsePan"), ("FalsePan$Table", 17, yX3_init, "FalsePan"), ("FalsePan$Table", 24, yX1_init, "FalsePan"), ("FalsePan$History", 17, yX4_init, "FalsePan"), ("FalsePan", 35, yX2_init, "FalsePan"), ("FalsePan$Slot", 9, yX4_init, "FalsePan"), ("FalsePan", 45, yX5_init, "FalsePan"), ("FalsePan$Table", 67, yX7_isArm, "FalsePan"), ("FalsePan$Table", 63, yX7_casesOf, "FalsePan")]
def caTab : List String := ["java/lang/IllegalArgumentException", "java/lang/IllegalStateException", "java/lang/IndexOutOfBoundsException"]
def ncTab : List (String × String) := [("java/lang/IllegalStateException", "java/lang/IllegalArgumentException"), ("java/lang/IllegalArgumentException", "java/lang/IndexOutOfBoundsException"), ("java/lang/IllegalStateException", "java/lang/IndexOutOfBoundsException")]
def deTab : List MethodName := [⟨"java/lang/RuntimeException", "<init>", "(Ljava/lang/String;)V"⟩, ⟨"java/lang/Exception", "<init>", "(Ljava/lang/String;)V"⟩, ⟨"java/lang/Throwable", "<init>", "(Ljava/lang/String;)V"⟩, ⟨"java/lang/RuntimeException", "<init>", "()V"⟩, ⟨"java/lang/Exception", "<init>", "()V"⟩, ⟨"java/lang/Throwable", "<init>", "()V"⟩]
def gE (ad : (Nat → Nat) × (Nat → Nat)) (A : Nat → Prop) (U : State) : Prop :=
  (∀ i, i < 5 → va_O "java/lang/String" (ad.1 i) A U U.heap ∧ va_OF "java/lang/String" "coder" "B" (.int 0) (ad.1 i) A U U.heap ∧ va_OF "java/lang/String" "value" "[B" (.ref (ad.2 i)) (ad.1 i) A U U.heap ∧ va_T .byte (ad.2 i) (stB i).length (fun j => .int ((stB i).getD j 0)) A U U.heap) ∧
  (∀ i, i < 28 → vk_R (stO i) (stK i) (stT i) (ad.1 i) U) ∧ va_Z "java/lang/String" "COMPACT_STRINGS" "Z" (.int 1) A U U.heap ∧ vx_Zq Bundle.tN "UNASSIGNED_STACK" Bundle.steD A U U.heap ∧ vx_Zq Bundle.tN "SUPPRESSED_SENTINEL" Bundle.listD A U U.heap ∧
  (∀ q ∈ neTab, va_Nw (.methodLinkNest q.1 q.2.1 q.2.2.1 q.2.2.2) U) ∧ (∀ q ∈ caTab, va_Nw (.castable q q) U) ∧ (∀ q ∈ ncTab, va_Nc q.1 q.2 U) ∧ ∀ q ∈ deTab, va_Nw (.declares q) U
theorem gE_go {ad : (Nat → Nat) × (Nat → Nat)} {A A' : Nat → Prop} {s U : State} {H : Heap} {locs : List Loc} (h : gE ad A s) (hS : va_S A s.heap H locs) (hU : U.heap = H) (hW : s.WarmedH U.vm) (hA : ∀ q, A' q → A q) : gE ad A' U := by
  subst hU
  refine ⟨fun i hi => ?_, fun i hi => vk_R.warm hW (h.2.1 i hi), ((h.2.2.1.moved hW.alike).kept hS.2.1).narrow hA, ((h.2.2.2.1.moved hW.alike).kept hS.2.1).narrow hA, ((h.2.2.2.2.1.moved hW.alike).kept hS.2.1).narrow hA, fun q hq => va_Nw.warmM hW (h.2.2.2.2.2.1 q hq), fun q hq => va_Nw.warmC hW (h.2.2.2.2.2.2.1 q hq), fun q hq => (h.2.2.2.2.2.2.2.1 q hq).moved hW.alike, fun q hq => va_Nw.warmD hW (h.2.2.2.2.2.2.2.2 q hq)⟩
  obtain ⟨h1, h2, h3, h4⟩ := h.1 i hi
  exact ⟨((va_O.moved hW.alike h1).kept hS.2.1).narrow hA, ((va_OF.moved hW.alike h2).kept hS.2.1).narrow hA, ((va_OF.moved hW.alike h3).kept hS.2.1).narrow hA, ((va_T.moved hW.alike h4).kept hS.2.1).narrow hA⟩
theorem gE_calling {ad : (Nat → Nat) × (Nat → Nat)} {A : Nat → Prop} {U : State} {g : JFrame} {mk : MethodId} {a : Array Value} (h : gE ad A U) : gE ad A (U.calling g mk a) := by
  have hvm : U.vm.Alike (U.calling g mk a).vm := Vm.Alike.refl U.vm
  refine ⟨fun i hi => ?_, fun i hi => vk_R.same (u := U) rfl (h.2.1 i hi), h.2.2.1.moved hvm, h.2.2.2.1.moved hvm, h.2.2.2.2.1.moved hvm, fun q hq => va_Nw.same rfl rfl (h.2.2.2.2.2.1 q hq), fun q hq => va_Nw.same rfl rfl (h.2.2.2.2.2.2.1 q hq), fun q hq => (h.2.2.2.2.2.2.2.1 q hq).moved hvm, fun q hq => va_Nw.same rfl rfl (h.2.2.2.2.2.2.2.2 q hq)⟩
  obtain ⟨h1, h2, h3, h4⟩ := h.1 i hi
  exact ⟨va_O.moved hvm h1, va_OF.moved hvm h2, va_OF.moved hvm h3, va_T.moved hvm h4⟩
/-! the judgement -/
def GW (p : Program) (l : Launch) (e : Env) (R : Room) (s : State) (m : MethodId) (args : Array Value) (below : List Frame) (meth : Method) (c : Code) (A : Nat → Prop) (D : va_G) (nL cells slots : Nat) (Q : State → Prop) (pc : Nat) (lv : List (Nat × Value)) (st : List Value) (gs : List va_W) : Prop :=
  ∀ (H : Heap) (locs : List Loc) (ls : Array Slot), va_P D vwCl gs.flatten H → va_D A gs.flatten → va_S A s.heap H locs → lv_has ls nL lv → W p l e R s m args below meth c H locs cells slots Q (F0 m pc ls st)
/-- what stands fast in a method -/
def gK (p : Program) (s : State) (m : MethodId) (args : Array Value) (meth : Method) (c : Code) (A : Nat → Prop) (D : va_G) (cy : Nat → ClassId) (ad : (Nat → Nat) × (Nat → Nat)) (cc : ByteArray) (nL : Nat) (own : String) : Prop :=
  p.tables.exec = Jvm.exec ∧ c.code = cc ∧ c.maxLocals = nL ∧ s.vm.findClass own = some m.cls ∧ (∀ w ∈ wG, w.before args s = true) ∧ va_K D vwCl (tyG cy) s ∧ (∀ q, s.heap.size ≤ q → A q) ∧ meth.locks = false ∧ gE ad A s
section GWR
variable {p : Program} {l : Launch} {e : Env} {R : Room} {s : State} {m : MethodId} {args : Array Value} {below : List Frame} {meth : Method} {c : Code} {cells slots : Nat} {Q : State → Prop} {A : Nat → Prop} {D : va_G} {cy : Nat → ClassId} {ad : (Nat → Nat) × (Nat → Nat)} {cc : ByteArray} {nL : Nat} {own : String} {pc : Nat} {lv : List (Nat × Value)} {st rest : List Value} {gs : List va_W}
theorem g_iload_n (X : gK p s m args meth c A D cy ad cc nL own) {k : Fin 4} {x : Int32} (d : decode cc pc = .ok (.iload_n k, 1)) (j : Nat) {i : Nat} (h : lv[j]? = some (i, .int x)) (hi : (k : Nat) = i) (K : GW p l e R s m args below meth c A D nL cells slots Q (pc + 1) lv (.int x :: st) gs) : GW p l e R s m args below meth c A D nL cells slots Q pc lv st gs := fun H locs ls hP hD hS hl => lv_iload_n X.1 X.2.1 d hi (lv_at hl j h) (K H locs ls hP hD hS hl)
theorem g_aload_n (X : gK p s m args meth c A D cy ad cc nL own) {k : Fin 4} {x : Nat} (d : decode cc pc = .ok (.aload_n k, 1)) (j : Nat) {i : Nat} (h : lv[j]? = some (i, .ref x)) (hi : (k : Nat) = i) (K : GW p l e R s m args below meth c A D nL cells slots Q (pc + 1) lv (.ref x :: st) gs) : GW p l e R s m args below meth c A D nL cells slots Q pc lv st gs := fun H locs ls hP hD hS hl => lv_aload_n X.1 X.2.1 d hi (lv_at hl j h) (K H locs ls hP hD hS hl)
theorem g_lload_n (X : gK p s m args meth c A D cy ad cc nL own) {k : Fin 4} {x : Int64} (d : decode cc pc = .ok (.lload_n k, 1)) (j : Nat) {i : Nat} (h : lv[j]? = some (i, .long x)) (hi : (k : Nat) = i) (K : GW p l e R s m args below meth c A D nL cells slots Q (pc + 1) lv (.long x :: st) gs) : GW p l e R s m args below meth c A D nL cells slots Q pc lv st gs := fun H locs ls hP hD hS hl => lv_lload_n X.1 X.2.1 d hi (lv_at hl j h) (K H locs ls hP hD hS hl)
theorem g_iload (X : gK p s m args meth c A D cy ad cc nL own) {i : Nat} {x : Int32} (d : decode cc pc = .ok (.iload i, 2)) (j : Nat) (h : lv[j]? = some (i, .int x)) (K : GW p l e R s m args below meth c A D nL cells slots Q (pc + 2) lv (.int x :: st) gs) : GW p l e R s m args below meth c A D nL cells slots Q pc lv st gs := fun H locs ls hP hD hS hl => lv_iload X.1 X.2.1 d (lv_at hl j h) (K H locs ls hP hD hS hl)
theorem g_aload (X : gK p s m args meth c A D cy ad cc nL own) {i : Nat} {x : Nat} (d : decode cc pc = .ok (.aload i, 2)) (j : Nat) (h : lv[j]? = some (i, .ref x)) (K : GW p l e R s m args below meth c A D nL cells slots Q (pc + 2) lv (.ref x :: st) gs) : GW p l e R s m args below meth c A D nL cells slots Q pc lv st gs := fun H locs ls hP hD hS hl => lv_aload X.1 X.2.1 d (lv_at hl j h) (K H locs ls hP hD hS hl)
theorem g_lload (X : gK p s m args meth c A D cy ad cc nL own) {i : Nat} {x : Int64} (d : decode cc pc = .ok (.lload i, 2)) (j : Nat) (h : lv[j]? = some (i, .long x)) (K : GW p l e R s m args below meth c A D nL cells slots Q (pc + 2) lv (.long x :: st) gs) : GW p l e R s m args below meth c A D nL cells slots Q pc lv st gs := fun H locs ls hP hD hS hl => lv_lload X.1 X.2.1 d (lv_at hl j h) (K H locs ls hP hD hS hl)
theorem g_iconst (X : gK p s m args meth c A D cy ad cc nL own) {n : Int} (v : Int32) (d : decode cc pc = .ok (.iconst n, 1)) (hv : Int32.ofInt n = v) (K : GW p l e R s m args below meth c A D nL cells slots Q (pc + 1) lv (.int v :: st) gs) : GW p l e R s m args below meth c A D nL cells slots Q pc lv st gs := fun H locs ls hP hD hS hl => lv_iconst X.1 X.2.1 d hv (K H locs ls hP hD hS hl)
theorem g_bipush (X : gK p s m args meth c A D cy ad cc nL own) {n : Int} (v : Int32) (d : decode cc pc = .ok (.bipush n, 2)) (hv : (Int8.ofInt n).toInt32 = v) (K : GW p l e R s m args below meth c A D nL cells slots Q (pc + 2) lv (.int v :: st) gs) : GW p l e R s m args below meth c A D nL cells slots Q pc lv st gs := fun H locs ls hP hD hS hl => lv_bipush X.1 X.2.1 d hv (K H locs ls hP hD hS hl)
theorem g_sipush (X : gK p s m args meth c A D cy ad cc nL own) {n : Int} (v : Int32) (d : decode cc pc = .ok (.sipush n, 3)) (hv : (Int16.ofInt n).toInt32 = v) (K : GW p l e R s m args below meth c A D nL cells slots Q (pc + 3) lv (.int v :: st) gs) : GW p l e R s m args below meth c A D nL cells slots Q pc lv st gs := fun H locs ls hP hD hS hl => lv_sipush X.1 X.2.1 d hv (K H locs ls hP hD hS hl)
theorem g_lconst (X : gK p s m args meth c A D cy ad cc nL own) {n : Fin 2} (v : Int64) (d : decode cc pc = .ok (.lconst n, 1)) (hv : Int64.ofNat (n : Nat) = v) (K : GW p l e R s m args below meth c A D nL cells slots Q (pc + 1) lv (.long v :: st) gs) : GW p l e R s m args below meth c A D nL cells slots Q pc lv st gs := fun H locs ls hP hD hS hl => lv_lconst X.1 X.2.1 d hv (K H locs ls hP hD hS hl)
theorem g_ldc (X : gK p s m args meth c A D cy ad cc nL own) {n : Nat} {v : Int32} (hw : Cond.constant own n v ∈ wG) (d : decode cc pc = .ok (.ldc n, 2)) (K : GW p l e R s m args below meth c A D nL cells slots Q (pc + 2) lv (.int v :: st) gs) : GW p l e R s m args below meth c A D nL cells slots Q pc lv st gs := fun H locs ls hP hD hS hl => lv_ldc X.1 X.2.1 X.2.2.2.1 (X.2.2.2.2.1 _ hw) d (K H locs ls hP hD hS hl)
theorem g_ldcw (X : gK p s m args meth c A D cy ad cc nL own) {n : Nat} {v : Int32} (hw : Cond.constant own n v ∈ wG) (d : decode cc pc = .ok (.ldc_w n, 3)) (K : GW p l e R s m args below meth c A D nL cells slots Q (pc + 3) lv (.int v :: st) gs) : GW p l e R s m args below meth c A D nL cells slots Q pc lv st gs := fun H locs ls hP hD hS hl => lv_ldcw X.1 X.2.1 X.2.2.2.1 (X.2.2.2.2.1 _ hw) d (K H locs ls hP hD hS hl)
theorem g_ldc2 (X : gK p s m args meth c A D cy ad cc nL own) {n : Nat} {v : Int64} (hw : Cond.constantLong own n v ∈ wG) (d : decode cc pc = .ok (.ldc2_w n, 3)) (K : GW p l e R s m args below meth c A D nL cells slots Q (pc + 3) lv (.long v :: st) gs) : GW p l e R s m args below meth c A D nL cells slots Q pc lv st gs := fun H locs ls hP hD hS hl => lv_ldc2 X.1 X.2.1 X.2.2.2.1 (X.2.2.2.2.1 _ hw) d (K H locs ls hP hD hS hl)
theorem g_null (X : gK p s m args meth c A D cy ad cc nL own) (d : decode cc pc = .ok (.aconst_null, 1)) (K : GW p l e R s m args below meth c A D nL cells slots Q (pc + 1) lv (.null :: st) gs) : GW p l e R s m args below meth c A D nL cells slots Q pc lv st gs := fun H locs ls hP hD hS hl => lv_null X.1 X.2.1 d (K H locs ls hP hD hS hl)
theorem g_iadd (X : gK p s m args meth c A D cy ad cc nL own) {x y : Int32} (d : decode cc pc = .ok (.iadd, 1)) (K : GW p l e R s m args below meth c A D nL cells slots Q (pc + 1) lv (.int (x + y) :: st) gs) : GW p l e R s m args below meth c A D nL cells slots Q pc lv (.int y :: .int x :: st) gs := fun H locs ls hP hD hS hl => lv_iadd X.1 X.2.1 d (K H locs ls hP hD hS hl)
theorem g_isub (X : gK p s m args meth c A D cy ad cc nL own) {x y : Int32} (d : decode cc pc = .ok (.isub, 1)) (K : GW p l e R s m args below meth c A D nL cells slots Q (pc + 1) lv (.int (x - y) :: st) gs) : GW p l e R s m args below meth c A D nL cells slots Q pc lv (.int y :: .int x :: st) gs := fun H locs ls hP hD hS hl => lv_isub X.1 X.2.1 d (K H locs ls hP hD hS hl)
theorem g_imul (X : gK p s m args meth c A D cy ad cc nL own) {x y : Int32} (d : decode cc pc = .ok (.imul, 1)) (K : GW p l e R s m args below meth c A D nL cells slots Q (pc + 1) lv (.int (x * y) :: st) gs) : GW p l e R s m args below meth c A D nL cells slots Q pc lv (.int y :: .int x :: st) gs := fun H locs ls hP hD hS hl => lv_imul X.1 X.2.1 d (K H locs ls hP hD hS hl)
theorem g_iand (X : gK p s m args meth c A D cy ad cc nL own) {x y : Int32} (d : decode cc pc = .ok (.iand, 1)) (K : GW p l e R s m args below meth c A D nL cells slots Q (pc + 1) lv (.int (x &&& y) :: st) gs) : GW p l e R s m args below meth c A D nL cells slots Q pc lv (.int y :: .int x :: st) gs := fun H locs ls hP hD hS hl => lv_iand X.1 X.2.1 d (K H locs ls hP hD hS hl)
theorem g_ior (X : gK p s m args meth c A D cy ad cc nL own) {x y : Int32} (d : decode cc pc = .ok (.ior, 1)) (K : GW p l e R s m args below meth c A D nL cells slots Q (pc + 1) lv (.int (x ||| y) :: st) gs) : GW p l e R s m args below meth c A D nL cells slots Q pc lv (.int y :: .int x :: st) gs := fun H locs ls hP hD hS hl => lv_ior X.1 X.2.1 d (K H locs ls hP hD hS hl)
theorem g_ixor (X : gK p s m args meth c A D cy ad cc nL own) {x y : Int32} (d : decode cc pc = .ok (.ixor, 1)) (K : GW p l e R s m args below meth c A D nL cells slots Q (pc + 1) lv (.int (x ^^^ y) :: st) gs) : GW p l e R s m args below meth c A D nL cells slots Q pc lv (.int y :: .int x :: st) gs := fun H locs ls hP hD hS hl => lv_ixor X.1 X.2.1 d (K H locs ls hP hD hS hl)
theorem g_ishl (X : gK p s m args meth c A D cy ad cc nL own) {x y : Int32} (d : decode cc pc = .ok (.ishl, 1)) (K : GW p l e R s m args below meth c A D nL cells slots Q (pc + 1) lv (.int (x <<< (y &&& 31)) :: st) gs) : GW p l e R s m args below meth c A D nL cells slots Q pc lv (.int y :: .int x :: st) gs := fun H locs ls hP hD hS hl => lv_ishl X.1 X.2.1 d (K H locs ls hP hD hS hl)
theorem g_ishr (X : gK p s m args meth c A D cy ad cc nL own) {x y : Int32} (d : decode cc pc = .ok (.ishr, 1)) (K : GW p l e R s m args below meth c A D nL cells slots Q (pc + 1) lv (.int (x >>> (y &&& 31)) :: st) gs) : GW p l e R s m args below meth c A D nL cells slots Q pc lv (.int y :: .int x :: st) gs := fun H locs ls hP hD hS hl => lv_ishr X.1 X.2.1 d (K H locs ls hP hD hS hl)
theorem g_idiv (X : gK p s m args meth c A D cy ad cc nL own) {x y : Int32} (d : decode cc pc = .ok (.idiv, 1)) (hne : ¬ y = 0) (K : GW p l e R s m args below meth c A D nL cells slots Q (pc + 1) lv (.int (x / y) :: st) gs) : GW p l e R s m args below meth c A D nL cells slots Q pc lv (.int y :: .int x :: st) gs := fun H locs ls hP hD hS hl => lv_idiv X.1 X.2.1 d hne (K H locs ls hP hD hS hl)
theorem g_irem (X : gK p s m args meth c A D cy ad cc nL own) {x y : Int32} (d : decode cc pc = .ok (.irem, 1)) (hne : ¬ y = 0) (K : GW p l e R s m args below meth c A D nL cells slots Q (pc + 1) lv (.int (x - x / y * y) :: st) gs) : GW p l e R s m args below meth c A D nL cells slots Q pc lv (.int y :: .int x :: st) gs := fun H locs ls hP hD hS hl => lv_irem X.1 X.2.1 d hne (K H locs ls hP hD hS hl)
theorem g_iushr (X : gK p s m args meth c A D cy ad cc nL own) {x y : Int32} (d : decode cc pc = .ok (.iushr, 1)) (K : GW p l e R s m args below meth c A D nL cells slots Q (pc + 1) lv (.int ((x.toUInt32 >>> (y.toUInt32 &&& Int32.toUInt32 31)).toInt32) :: st) gs) : GW p l e R s m args below meth c A D nL cells slots Q pc lv (.int y :: .int x :: st) gs := fun H locs ls hP hD hS hl => lv_iushr X.1 X.2.1 d rfl (K H locs ls hP hD hS hl)
theorem g_ladd (X : gK p s m args meth c A D cy ad cc nL own) {x y : Int64} (d : decode cc pc = .ok (.ladd, 1)) (K : GW p l e R s m args below meth c A D nL cells slots Q (pc + 1) lv (.long (x + y) :: st) gs) : GW p l e R s m args below meth c A D nL cells slots Q pc lv (.long y :: .long x :: st) gs := fun H locs ls hP hD hS hl => lv_ladd X.1 X.2.1 d (K H locs ls hP hD hS hl)
theorem g_lsub (X : gK p s m args meth c A D cy ad cc nL own) {x y : Int64} (d : decode cc pc = .ok (.lsub, 1)) (K : GW p l e R s m args below meth c A D nL cells slots Q (pc + 1) lv (.long (x - y) :: st) gs) : GW p l e R s m args below meth c A D nL cells slots Q pc lv (.long y :: .long x :: st) gs := fun H locs ls hP hD hS hl => lv_lsub X.1 X.2.1 d (K H locs ls hP hD hS hl)
theorem g_lmul (X : gK p s m args meth c A D cy ad cc nL own) {x y : Int64} (d : decode cc pc = .ok (.lmul, 1)) (K : GW p l e R s m args below meth c A D nL cells slots Q (pc + 1) lv (.long (x * y) :: st) gs) : GW p l e R s m args below meth c A D nL cells slots Q pc lv (.long y :: .long x :: st) gs := fun H locs ls hP hD hS hl => lv_lmul X.1 X.2.1 d (K H locs ls hP hD hS hl)
theorem g_land (X : gK p s m args meth c A D cy ad cc nL own) {x y : Int64} (d : decode cc pc = .ok (.land, 1)) (K : GW p l e R s m args below meth c A D nL cells slots Q (pc + 1) lv (.long (x &&& y) :: st) gs) : GW p l e R s m args below meth c A D nL cells slots Q pc lv (.long y :: .long x :: st) gs := fun H locs ls hP hD hS hl => lv_land X.1 X.2.1 d (K H locs ls hP hD hS hl)
theorem g_lor (X : gK p s m args meth c A D cy ad cc nL own) {x y : Int64} (d : decode cc pc = .ok (.lor, 1)) (K : GW p l e R s m args below meth c A D nL cells slots Q (pc + 1) lv (.long (x ||| y) :: st) gs) : GW p l e R s m args below meth c A D nL cells slots Q pc lv (.long y :: .long x :: st) gs := fun H locs ls hP hD hS hl => lv_lor X.1 X.2.1 d (K H locs ls hP hD hS hl)
theorem g_ldiv (X : gK p s m args meth c A D cy ad cc nL own) {x y : Int64} (d : decode cc pc = .ok (.ldiv, 1)) (hne : ¬ y = 0) (K : GW p l e R s m args below meth c A D nL cells slots Q (pc + 1) lv (.long (x / y) :: st) gs) : GW p l e R s m args below meth c A D nL cells slots Q pc lv (.long y :: .long x :: st) gs := fun H locs ls hP hD hS hl => lv_ldiv X.1 X.2.1 d hne (K H locs ls hP hD hS hl)
theorem g_lrem (X : gK p s m args meth c A D cy ad cc nL own) {x y : Int64} (d : decode cc pc = .ok (.lrem, 1)) (hne : ¬ y = 0) (K : GW p l e R s m args below meth c A D nL cells slots Q (pc + 1) lv (.long (x - x / y * y) :: st) gs) : GW p l e R s m args below meth c A D nL cells slots Q pc lv (.long y :: .long x :: st) gs := fun H locs ls hP hD hS hl => lv_lrem X.1 X.2.1 d hne (K H locs ls hP hD hS hl)
theorem g_lshl (X : gK p s m args meth c A D cy ad cc nL own) {x : Int64} {y : Int32} (d : decode cc pc = .ok (.lshl, 1)) (K : GW p l e R s m args below meth c A D nL cells slots Q (pc + 1) lv (.long (x <<< (y.toInt64 &&& 63)) :: st) gs) : GW p l e R s m args below meth c A D nL cells slots Q pc lv (.int y :: .long x :: st) gs := fun H locs ls hP hD hS hl => lv_lshl X.1 X.2.1 d rfl (K H locs ls hP hD hS hl)
theorem g_lushr (X : gK p s m args meth c A D cy ad cc nL own) {x : Int64} {y : Int32} (d : decode cc pc = .ok (.lushr, 1)) (K : GW p l e R s m args below meth c A D nL cells slots Q (pc + 1) lv (.long ((x.toUInt64 >>> (y.toInt64.toUInt64 &&& Int64.toUInt64 63)).toInt64) :: st) gs) : GW p l e R s m args below meth c A D nL cells slots Q pc lv (.int y :: .long x :: st) gs := fun H locs ls hP hD hS hl => lv_lushr X.1 X.2.1 d rfl (K H locs ls hP hD hS hl)
theorem g_lcmp (X : gK p s m args meth c A D cy ad cc nL own) {x y : Int64} (d : decode cc pc = .ok (.lcmp, 1)) (K : GW p l e R s m args below meth c A D nL cells slots Q (pc + 1) lv (.int (lg_cmp x y) :: st) gs) : GW p l e R s m args below meth c A D nL cells slots Q pc lv (.long y :: .long x :: st) gs := fun H locs ls hP hD hS hl => W.lcmp X.1 X.2.1 d (K H locs ls hP hD hS hl)
theorem g_i2l (X : gK p s m args meth c A D cy ad cc nL own) {x : Int32} (d : decode cc pc = .ok (.i2l, 1)) (K : GW p l e R s m args below meth c A D nL cells slots Q (pc + 1) lv (.long x.toInt64 :: st) gs) : GW p l e R s m args below meth c A D nL cells slots Q pc lv (.int x :: st) gs := fun H locs ls hP hD hS hl => lv_i2l X.1 X.2.1 d rfl (K H locs ls hP hD hS hl)
theorem g_l2i (X : gK p s m args meth c A D cy ad cc nL own) {x : Int64} (d : decode cc pc = .ok (.l2i, 1)) (K : GW p l e R s m args below meth c A D nL cells slots Q (pc + 1) lv (.int x.toInt32 :: st) gs) : GW p l e R s m args below meth c A D nL cells slots Q pc lv (.long x :: st) gs := fun H locs ls hP hD hS hl => lv_l2i X.1 X.2.1 d rfl (K H locs ls hP hD hS hl)
theorem g_i2c (X : gK p s m args meth c A D cy ad cc nL own) {x : Int32} (d : decode cc pc = .ok (.i2c, 1)) (K : GW p l e R s m args below meth c A D nL cells slots Q (pc + 1) lv (.int ((x.toUInt32 % 65536).toInt32) :: st) gs) : GW p l e R s m args below meth c A D nL cells slots Q pc lv (.int x :: st) gs := fun H locs ls hP hD hS hl => lv_i2c X.1 X.2.1 d rfl (K H locs ls hP hD hS hl)
theorem g_i2b (X : gK p s m args meth c A D cy ad cc nL own) {x : Int32} (d : decode cc pc = .ok (.i2b, 1)) (K : GW p l e R s m args below meth c A D nL cells slots Q (pc + 1) lv (.int x.toInt8.toInt32 :: st) gs) : GW p l e R s m args below meth c A D nL cells slots Q pc lv (.int x :: st) gs := fun H locs ls hP hD hS hl => lv_i2b X.1 X.2.1 d rfl (K H locs ls hP hD hS hl)
theorem g_dup (X : gK p s m args meth c A D cy ad cc nL own) {v : Value} (d : decode cc pc = .ok (.dup, 1)) (hv : v.category = 1) (K : GW p l e R s m args below meth c A D nL cells slots Q (pc + 1) lv (v :: v :: st) gs) : GW p l e R s m args below meth c A D nL cells slots Q pc lv (v :: st) gs := fun H locs ls hP hD hS hl => lv_dup X.1 X.2.1 d hv (K H locs ls hP hD hS hl)
theorem g_pop (X : gK p s m args meth c A D cy ad cc nL own) {v : Value} (d : decode cc pc = .ok (.pop, 1)) (hv : v.category = 1) (K : GW p l e R s m args below meth c A D nL cells slots Q (pc + 1) lv st gs) : GW p l e R s m args below meth c A D nL cells slots Q pc lv (v :: st) gs := fun H locs ls hP hD hS hl => lv_pop X.1 X.2.1 d hv (K H locs ls hP hD hS hl)
theorem g_dup2 (X : gK p s m args meth c A D cy ad cc nL own) {v w : Value} (d : decode cc pc = .ok (.dup2, 1)) (hv : v.category = 1) (hw : w.category = 1) (K : GW p l e R s m args below meth c A D nL cells slots Q (pc + 1) lv (v :: w :: v :: w :: st) gs) : GW p l e R s m args below meth c A D nL cells slots Q pc lv (v :: w :: st) gs := fun H locs ls hP hD hS hl => lv_dup2_11 X.1 X.2.1 d hv hw (K H locs ls hP hD hS hl)
theorem g_goto (X : gK p s m args meth c A D cy ad cc nL own) {off : Int} (tgt : Nat) (d : decode cc pc = .ok (.goto off, 3)) (ht : (pc : Int) + off = (tgt : Int)) (K : GW p l e R s m args below meth c A D nL cells slots Q tgt lv st gs) : GW p l e R s m args below meth c A D nL cells slots Q pc lv st gs := fun H locs ls hP hD hS hl => lv_goto X.1 X.2.1 d ht (K H locs ls hP hD hS hl)
theorem g_if_eq (X : gK p s m args meth c A D cy ad cc nL own) {x : Int32} {off : Int} (tgt : Nat) (d : decode cc pc = .ok (.ifCond .eq off, 3)) (ht : (pc : Int) + off = (tgt : Int)) (kt : x = 0 → GW p l e R s m args below meth c A D nL cells slots Q tgt lv st gs) (kf : ¬ x = 0 → GW p l e R s m args below meth c A D nL cells slots Q (pc + 3) lv st gs) : GW p l e R s m args below meth c A D nL cells slots Q pc lv (.int x :: st) gs := fun H locs ls hP hD hS hl => lv_if_eq X.1 X.2.1 d ht (fun z => kt z H locs ls hP hD hS hl) (fun z => kf z H locs ls hP hD hS hl)
theorem g_if_ne (X : gK p s m args meth c A D cy ad cc nL own) {x : Int32} {off : Int} (tgt : Nat) (d : decode cc pc = .ok (.ifCond .ne off, 3)) (ht : (pc : Int) + off = (tgt : Int)) (kt : ¬ x = 0 → GW p l e R s m args below meth c A D nL cells slots Q tgt lv st gs) (kf : x = 0 → GW p l e R s m args below meth c A D nL cells slots Q (pc + 3) lv st gs) : GW p l e R s m args below meth c A D nL cells slots Q pc lv (.int x :: st) gs := fun H locs ls hP hD hS hl => lv_if_ne X.1 X.2.1 d ht (fun z => kt z H locs ls hP hD hS hl) (fun z => kf z H locs ls hP hD hS hl)
theorem g_if_lt (X : gK p s m args meth c A D cy ad cc nL own) {x : Int32} {off : Int} (tgt : Nat) (d : decode cc pc = .ok (.ifCond .lt off, 3)) (ht : (pc : Int) + off = (tgt : Int)) (kt : x < 0 → GW p l e R s m args below meth c A D nL cells slots Q tgt lv st gs) (kf : ¬ x < 0 → GW p l e R s m args below meth c A D nL cells slots Q (pc + 3) lv st gs) : GW p l e R s m args below meth c A D nL cells slots Q pc lv (.int x :: st) gs := fun H locs ls hP hD hS hl => lv_if_lt X.1 X.2.1 d ht (fun z => kt z H locs ls hP hD hS hl) (fun z => kf z H locs ls hP hD hS hl)
theorem g_if_ge (X : gK p s m args meth c A D cy ad cc nL own) {x : Int32} {off : Int} (tgt : Nat) (d : decode cc pc = .ok (.ifCond .ge off, 3)) (ht : (pc : Int) + off = (tgt : Int)) (kt : 0 ≤ x → GW p l e R s m args below meth c A D nL cells slots Q tgt lv st gs) (kf : ¬ 0 ≤ x → GW p l e R s m args below meth c A D nL cells slots Q (pc + 3) lv st gs) : GW p l e R s m args below meth c A D nL cells slots Q pc lv (.int x :: st) gs := fun H locs ls hP hD hS hl => lv_if_ge X.1 X.2.1 d ht (fun z => kt z H locs ls hP hD hS hl) (fun z => kf z H locs ls hP hD hS hl)
theorem g_if_gt (X : gK p s m args meth c A D cy ad cc nL own) {x : Int32} {off : Int} (tgt : Nat) (d : decode cc pc = .ok (.ifCond .gt off, 3)) (ht : (pc : Int) + off = (tgt : Int)) (kt : 0 < x → GW p l e R s m args below meth c A D nL cells slots Q tgt lv st gs) (kf : ¬ 0 < x → GW p l e R s m args below meth c A D nL cells slots Q (pc + 3) lv st gs) : GW p l e R s m args below meth c A D nL cells slots Q pc lv (.int x :: st) gs := fun H locs ls hP hD hS hl => lv_if_gt X.1 X.2.1 d ht (fun z => kt z H locs ls hP hD hS hl) (fun z => kf z H locs ls hP hD hS hl)
theorem g_if_le (X : gK p s m args meth c A D cy ad cc nL own) {x : Int32} {off : Int} (tgt : Nat) (d : decode cc pc = .ok (.ifCond .le off, 3)) (ht : (pc : Int) + off = (tgt : Int)) (kt : x ≤ 0 → GW p l e R s m args below meth c A D nL cells slots Q tgt lv st gs) (kf : ¬ x ≤ 0 → GW p l e R s m args below meth c A D nL cells slots Q (pc + 3) lv st gs) : GW p l e R s m args below meth c A D nL cells slots Q pc lv (.int x :: st) gs := fun H locs ls hP hD hS hl => lv_if_le X.1 X.2.1 d ht (fun z => kt z H locs ls hP hD hS hl) (fun z => kf z H locs ls hP hD hS hl)
theorem g_icmp_eq (X : gK p s m args meth c A D cy ad cc nL own) {x y : Int32} {off : Int} (tgt : Nat) (d : decode cc pc = .ok (.if_icmp .eq off, 3)) (ht : (pc : Int) + off = (tgt : Int)) (kt : x = y → GW p l e R s m args below meth c A D nL cells slots Q tgt lv st gs) (kf : ¬ x = y → GW p l e R s m args below meth c A D nL cells slots Q (pc + 3) lv st gs) : GW p l e R s m args below meth c A D nL cells slots Q pc lv (.int y :: .int x :: st) gs := fun H locs ls hP hD hS hl => lv_icmp_eq X.1 X.2.1 d ht (fun z => kt z H locs ls hP hD hS hl) (fun z => kf z H locs ls hP hD hS hl)
theorem g_icmp_ne (X : gK p s m args meth c A D cy ad cc nL own) {x y : Int32} {off : Int} (tgt : Nat) (d : decode cc pc = .ok (.if_icmp .ne off, 3)) (ht : (pc : Int) + off = (tgt : Int)) (kt : ¬ x = y → GW p l e R s m args below meth c A D nL cells slots Q tgt lv st gs) (kf : x = y → GW p l e R s m args below meth c A D nL cells slots Q (pc + 3) lv st gs) : GW p l e R s m args below meth c A D nL cells slots Q pc lv (.int y :: .int x :: st) gs := fun H locs ls hP hD hS hl => lv_icmp_ne X.1 X.2.1 d ht (fun z => kt z H locs ls hP hD hS hl) (fun z => kf z H locs ls hP hD hS hl)
theorem g_icmp_lt (X : gK p s m args meth c A D cy ad cc nL own) {x y : Int32} {off : Int} (tgt : Nat) (d : decode cc pc = .ok (.if_icmp .lt off, 3)) (ht : (pc : Int) + off = (tgt : Int)) (kt : x < y → GW p l e R s m args below meth c A D nL cells slots Q tgt lv st gs) (kf : ¬ x < y → GW p l e R s m args below meth c A D nL cells slots Q (pc + 3) lv st gs) : GW p l e R s m args below meth c A D nL cells slots Q pc lv (.int y :: .int x :: st) gs := fun H locs ls hP hD hS hl => lv_icmp_lt X.1 X.2.1 d ht (fun z => kt z H locs ls hP hD hS hl) (fun z => kf z H locs ls hP hD hS hl)
theorem g_icmp_ge (X : gK p s m args meth c A D cy ad cc nL own) {x y : Int32} {off : Int} (tgt : Nat) (d : decode cc pc = .ok (.if_icmp .ge off, 3)) (ht : (pc : Int) + off = (tgt : Int)) (kt : y ≤ x → GW p l e R s m args below meth c A D nL cells slots Q tgt lv st gs) (kf : ¬ y ≤ x → GW p l e R s m args below meth c A D nL cells slots Q (pc + 3) lv st gs) : GW p l e R s m args below meth c A D nL cells slots Q pc lv (.int y :: .int x :: st) gs := fun H locs ls hP hD hS hl => lv_icmp_ge X.1 X.2.1 d ht (fun z => kt z H locs ls hP hD hS hl) (fun z => kf z H locs ls hP hD hS hl)
theorem g_icmp_gt (X : gK p s m args meth c A D cy ad cc nL own) {x y : Int32} {off : Int} (tgt : Nat) (d : decode cc pc = .ok (.if_icmp .gt off, 3)) (ht : (pc : Int) + off = (tgt : Int)) (kt : y < x → GW p l e R s m args below meth c A D nL cells slots Q tgt lv st gs) (kf : ¬ y < x → GW p l e R s m args below meth c A D nL cells slots Q (pc + 3) lv st gs) : GW p l e R s m args below meth c A D nL cells slots Q pc lv (.int y :: .int x :: st) gs := fun H locs ls hP hD hS hl => lv_icmp_gt X.1 X.2.1 d ht (fun z => kt z H locs ls hP hD hS hl) (fun z => kf z H locs ls hP hD hS hl)
theorem g_icmp_le (X : gK p s m args meth c A D cy ad cc nL own) {x y : Int32} {off : Int} (tgt : Nat) (d : decode cc pc = .ok (.if_icmp .le off, 3)) (ht : (pc : Int) + off = (tgt : Int)) (kt : x ≤ y → GW p l e R s m args below meth c A D nL cells slots Q tgt lv st gs) (kf : ¬ x ≤ y → GW p l e R s m args below meth c A D nL cells slots Q (pc + 3) lv st gs) : GW p l e R s m args below meth c A D nL cells slots Q pc lv (.int y :: .int x :: st) gs := fun H locs ls hP hD hS hl => lv_icmp_le X.1 X.2.1 d ht (fun z => kt z H locs ls hP hD hS hl) (fun z => kf z H locs ls hP hD hS hl)
theorem g_ifnull (X : gK p s m args meth c A D cy ad cc nL own) {x : Nat} {off : Int} (d : decode cc pc = .ok (.ifnull off, 3)) (K : GW p l e R s m args below meth c A D nL cells slots Q (pc + 3) lv st gs) : GW p l e R s m args below meth c A D nL cells slots Q pc lv (.ref x :: st) gs := fun H locs ls hP hD hS hl => lv_ifnull X.1 X.2.1 d (K H locs ls hP hD hS hl)
theorem g_ifnonnull (X : gK p s m args meth c A D cy ad cc nL own) {x : Nat} {off : Int} (tgt : Nat) (d : decode cc pc = .ok (.ifnonnull off, 3)) (ht : (pc : Int) + off = (tgt : Int)) (K : GW p l e R s m args below meth c A D nL cells slots Q tgt lv st gs) : GW p l e R s m args below meth c A D nL cells slots Q pc lv (.ref x :: st) gs := fun H locs ls hP hD hS hl => lv_ifnonnull X.1 X.2.1 d ht (K H locs ls hP hD hS hl)
theorem g_istore_n (X : gK p s m args meth c A D cy ad cc nL own) {k : Fin 4} {x : Int32} {lv' : List (Nat × Value)} {i : Nat} (d : decode cc pc = .ok (.istore_n k, 1)) (ks : List Nat) (hi : (k : Nat) = i) (hn : i < nL) (hl' : lv_pick ((i, Value.int x) :: lv.filter (fun q => !(q.1 == i) && !(q.1 + 1 == i && q.2.category == 2))) ks = lv') (K : GW p l e R s m args below meth c A D nL cells slots Q (pc + 1) lv' st gs) : GW p l e R s m args below meth c A D nL cells slots Q pc lv (.int x :: st) gs := fun H locs ls hP hD hS hl => lv_istore_n X.1 X.2.1 d hi hl hn rfl (fun ls' h' => K H locs ls' hP hD hS (lv_sub h' ks hl'))
theorem g_astore_n (X : gK p s m args meth c A D cy ad cc nL own) {k : Fin 4} {x : Nat} {lv' : List (Nat × Value)} {i : Nat} (d : decode cc pc = .ok (.astore_n k, 1)) (ks : List Nat) (hi : (k : Nat) = i) (hn : i < nL) (hl' : lv_pick ((i, Value.ref x) :: lv.filter (fun q => !(q.1 == i) && !(q.1 + 1 == i && q.2.category == 2))) ks = lv') (K : GW p l e R s m args below meth c A D nL cells slots Q (pc + 1) lv' st gs) : GW p l e R s m args below meth c A D nL cells slots Q pc lv (.ref x :: st) gs := fun H locs ls hP hD hS hl => lv_astore_n X.1 X.2.1 d hi hl hn rfl (fun ls' h' => K H locs ls' hP hD hS (lv_sub h' ks hl'))
theorem g_istore (X : gK p s m args meth c A D cy ad cc nL own) {x : Int32} {lv' : List (Nat × Value)} {i : Nat} (d : decode cc pc = .ok (.istore i, 2)) (ks : List Nat) (hn : i < nL) (hl' : lv_pick ((i, Value.int x) :: lv.filter (fun q => !(q.1 == i) && !(q.1 + 1 == i && q.2.category == 2))) ks = lv') (K : GW p l e R s m args below meth c A D nL cells slots Q (pc + 2) lv' st gs) : GW p l e R s m args below meth c A D nL cells slots Q pc lv (.int x :: st) gs := fun H locs ls hP hD hS hl => lv_istore X.1 X.2.1 d hl hn rfl (fun ls' h' => K H locs ls' hP hD hS (lv_sub h' ks hl'))
theorem g_astore (X : gK p s m args meth c A D cy ad cc nL own) {x : Nat} {lv' : List (Nat × Value)} {i : Nat} (d : decode cc pc = .ok (.astore i, 2)) (ks : List Nat) (hn : i < nL) (hl' : lv_pick ((i, Value.ref x) :: lv.filter (fun q => !(q.1 == i) && !(q.1 + 1 == i && q.2.category == 2))) ks = lv') (K : GW p l e R s m args below meth c A D nL cells slots Q (pc + 2) lv' st gs) : GW p l e R s m args below meth c A D nL cells slots Q pc lv (.ref x :: st) gs := fun H locs ls hP hD hS hl => lv_astore X.1 X.2.1 d hl hn rfl (fun ls' h' => K H locs ls' hP hD hS (lv_sub h' ks hl'))
theorem g_lstore_n (X : gK p s m args meth c A D cy ad cc nL own) {k : Fin 4} {x : Int64} {lv' : List (Nat × Value)} {i : Nat} (d : decode cc pc = .ok (.lstore_n k, 1)) (ks : List Nat) (hi : (k : Nat) = i) (hn : i + 1 < nL) (hl' : lv_pick ((i, Value.long x) :: lv.filter (fun q => !(q.1 == i) && (!(q.1 == i + 1) && !(q.1 + 1 == i && q.2.category == 2)))) ks = lv') (K : GW p l e R s m args below meth c A D nL cells slots Q (pc + 1) lv' st gs) : GW p l e R s m args below meth c A D nL cells slots Q pc lv (.long x :: st) gs := fun H locs ls hP hD hS hl => lv_lstore_n X.1 X.2.1 d hi hl hn rfl (fun ls' h' => K H locs ls' hP hD hS (lv_sub h' ks hl'))
theorem g_lstore (X : gK p s m args meth c A D cy ad cc nL own) {x : Int64} {lv' : List (Nat × Value)} {i : Nat} (d : decode cc pc = .ok (.lstore i, 2)) (ks : List Nat) (hn : i + 1 < nL) (hl' : lv_pick ((i, Value.long x) :: lv.filter (fun q => !(q.1 == i) && (!(q.1 == i + 1) && !(q.1 + 1 == i && q.2.category == 2)))) ks = lv') (K : GW p l e R s m args below meth c A D nL cells slots Q (pc + 2) lv' st gs) : GW p l e R s m args below meth c A D nL cells slots Q pc lv (.long x :: st) gs := fun H locs ls hP hD hS hl => lv_lstore X.1 X.2.1 d hl hn rfl (fun ls' h' => K H locs ls' hP hD hS (lv_sub h' ks hl'))
theorem g_iinc (X : gK p s m args meth c A D cy ad cc nL own) {x v : Int32} {lv' : List (Nat × Value)} {i : Nat} {n : Int} (d : decode cc pc = .ok (.iinc i n, 3)) (j : Nat) (hj : lv[j]? = some (i, .int x)) (hv : Int32.ofInt n = v) (ks : List Nat) (hn : i < nL) (hl' : lv_pick ((i, Value.int (x + v)) :: lv.filter (fun q => !(q.1 == i) && !(q.1 + 1 == i && q.2.category == 2))) ks = lv') (K : GW p l e R s m args below meth c A D nL cells slots Q (pc + 3) lv' st gs) : GW p l e R s m args below meth c A D nL cells slots Q pc lv st gs := fun H locs ls hP hD hS hl => lv_iinc X.1 X.2.1 d hl hj (by rw [hv]) hn rfl (fun ls' h' => K H locs ls' hP hD hS (lv_sub h' ks hl'))
theorem g_sub (ks : List Nat) {lv' : List (Nat × Value)} (hl' : lv_pick lv ks = lv') (K : GW p l e R s m args below meth c A D nL cells slots Q pc lv' st gs) : GW p l e R s m args below meth c A D nL cells slots Q pc lv st gs := fun H locs ls hP hD hS hl => K H locs ls hP hD hS (lv_sub hl ks hl')
theorem g_regroup {gs' : List va_W} (h : gs.flatten = gs'.flatten) (K : GW p l e R s m args below meth c A D nL cells slots Q pc lv st gs') : GW p l e R s m args below meth c A D nL cells slots Q pc lv st gs := fun H locs ls hP hD hS hl => K H locs ls (h ▸ hP) (h ▸ hD) hS hl
theorem g_perm {gs' : List va_W} (h : gs.Perm gs') (K : GW p l e R s m args below meth c A D nL cells slots Q pc lv st gs') : GW p l e R s m args below meth c A D nL cells slots Q pc lv st gs := fun H locs ls hP hD hS hl => K H locs ls (gp_P (gp_fl h) hP) (gp_D (gp_fl h) hD) hS hl
theorem g_tableIn (X : gK p s m args meth c A D cy ad cc nL own) {dflt lo hi : Int} {offs : Array Int} {len : Nat} {x : Int32} {off : Int} (tgt : Nat) (d : decode cc pc = .ok (.tableswitch dflt lo hi offs, len)) (h1 : ¬ x.toInt < lo) (h2 : ¬ hi < x.toInt) (ho : offs[(x.toInt - lo).toNat]? = some off) (ht : (pc : Int) + off = (tgt : Int)) (K : GW p l e R s m args below meth c A D nL cells slots Q tgt lv st gs) : GW p l e R s m args below meth c A D nL cells slots Q pc lv (.int x :: st) gs := fun H locs ls hP hD hS hl => lv_tableIn X.1 X.2.1 d h1 h2 ho ht (K H locs ls hP hD hS hl)
theorem g_tableOut (X : gK p s m args meth c A D cy ad cc nL own) {dflt lo hi : Int} {offs : Array Int} {len : Nat} {x : Int32} (tgt : Nat) (d : decode cc pc = .ok (.tableswitch dflt lo hi offs, len)) (h : x.toInt < lo ∨ hi < x.toInt) (ht : (pc : Int) + dflt = (tgt : Int)) (K : GW p l e R s m args below meth c A D nL cells slots Q tgt lv st gs) : GW p l e R s m args below meth c A D nL cells slots Q pc lv (.int x :: st) gs := fun H locs ls hP hD hS hl => lv_tableOut X.1 X.2.1 d h ht (K H locs ls hP hD hS hl)
theorem g_lookup (X : gK p s m args meth c A D cy ad cc nL own) {dflt : Int} {ps : Array (Int × Int)} {len : Nat} {x : Int32} {off : Int} (tgt : Nat) (d : decode cc pc = .ok (.lookupswitch dflt ps, len)) (hp : (ps.toList.zip (ps.toList.drop 1)).all (fun (a, next) => a.1 < next.1) = true) (ho : Op.lookupswitch.offset ps.toList dflt x.toInt = off) (ht : (pc : Int) + off = (tgt : Int)) (K : GW p l e R s m args below meth c A D nL cells slots Q tgt lv st gs) : GW p l e R s m args below meth c A D nL cells slots Q pc lv (.int x :: st) gs := fun H locs ls hP hD hS hl => lv_lookup X.1 X.2.1 d hp ho ht (K H locs ls hP hD hS hl)
theorem sw_lk2 {x : Int32} {a b u v w : Int} (h1 : ¬ x.toInt = a) (h2 : ¬ x.toInt = b) : Op.lookupswitch.offset [(a, u), (b, v)] w x.toInt = w := by
  rw [Op.lookupswitch.offset_cons, if_neg (fun h => h1 h.symm), Op.lookupswitch.offset_cons, if_neg (fun h => h2 h.symm), Op.lookupswitch.offset_nil]
theorem sw_out {x : Int32} {lo hi : Int} (h : ∀ k : Int, lo ≤ k → k ≤ hi → x.toInt ≠ k) : x.toInt < lo ∨ hi < x.toInt := by
  rcases Int.lt_or_le x.toInt lo with a | a
  · exact Or.inl a
  · rcases Int.lt_or_le hi x.toInt with b | b
    · exact Or.inr b
    · exact absurd rfl (h _ a b)
theorem sw_ne {x y : Int32} {k : Int} (hk : y.toInt = k) (h : ¬ x = y) : ¬ x.toInt = k := fun e => h (Int32.toInt_inj.mp (e.trans hk.symm))
theorem g_get (X : gK p s m args meth c A D cy ad cc nL own) {C : String} {T : u_T} {N ci index : Nat} {b : Nat} {gl : va_W} {fs : List Value} {v : Value} (d : decode cc pc = .ok (.getfield index, 3)) (hC : vwCl[ci]? = some (C, T, N) ∧ ∀ w ∈ u_ws C T N, w ∈ wG) (g q k : Nat) (h1 : gs[g]? = some gl) (h2 : gl[q]? = some (b, .inr (ci, fs))) (hk : k < N) (hlink : Cond.fieldLink own index (T k).1 (T k).2.1 (T k).2.2.1 ∈ wG) (hv : fs[k]? = some v) (K : GW p l e R s m args below meth c A D nL cells slots Q (pc + 3) lv (v :: st) gs) : GW p l e R s m args below meth c A D nL cells slots Q pc lv (.ref b :: st) gs := fun H locs ls hP hD hS hl => by
  obtain ⟨i, hi, -⟩ := fl_get gs g q h1 h2
  exact va_get X.1 X.2.1 X.2.2.2.2.1 hC.2 X.2.2.2.1 X.2.2.2.2.2.1 hP i hi hC.1 k hk (X.2.2.2.2.1 _ hlink) (fun _ h => h) hv d (K H locs ls hP hD hS hl)
theorem g_put (X : gK p s m args meth c A D cy ad cc nL own) {C : String} {T : u_T} {N ci index : Nat} {b : Nat} {gl : va_W} {fs : List Value} {v : Value} {gs' : List va_W} {ty0 : Nat → FieldType} (d : decode cc pc = .ok (.putfield index, 3)) (hC : vwCl[ci]? = some (C, T, N) ∧ ∀ w ∈ u_ws C T N, w ∈ wG) (hT : (∀ k, k < N → parseFieldDescriptor (T k).2.2.1 = some (ty0 k)) ∧ (∀ a, a < N → ∀ b, b < N → a ≠ b → (T a).2.1 ≠ (T b).2.1)) (g q k : Nat) (h1 : gs[g]? = some gl) (h2 : gl[q]? = some (b, .inr (ci, fs))) (hk : k < N) (hlink : Cond.fieldLink own index (T k).1 (T k).2.1 (T k).2.2.1 ∈ wG) (hfin : (T k).2.2.2 = false) (hn : narrow (ty0 k) v = v) (hfit : fits (ty0 k) v = true) (hl9 : k < fs.length) (hg : gs.set g (gl.set q (b, .inr (ci, fs.set k v))) = gs') (K : GW p l e R s m args below meth c A D nL cells slots Q (pc + 3) lv st gs') : GW p l e R s m args below meth c A D nL cells slots Q pc lv (v :: .ref b :: st) gs := fun H locs ls hP hD hS hl => by
  obtain ⟨i, hi, hs⟩ := fl_get gs g q h1 h2
  refine va_put X.1 X.2.1 X.2.2.2.2.1 hC.2 ty0 hT.1 hT.2 X.2.2.2.1 X.2.2.2.2.2.1 hP hD hS i hi hC.1 k hk (X.2.2.2.2.1 _ hlink) (fun _ h => h) hfin (hT.1 k hk) hn hfit hl9 d (fun H1 locs1 hP1 hD1 hS1 => ?_)
  rw [← hs] at hP1 hD1
  exact K H1 locs1 ls (hg ▸ hP1) (hg ▸ hD1) hS1 hl
theorem g_putF (X : gK p s m args meth c A D cy ad cc nL own) {C : String} {T : u_T} {N ci index : Nat} {b : Nat} {gl : va_W} {fs : List Value} {v : Value} {gs' : List va_W} {ty0 : Nat → FieldType} (hin : meth.name = "<init>") (d : decode cc pc = .ok (.putfield index, 3)) (hC : vwCl[ci]? = some (C, T, N) ∧ ∀ w ∈ u_ws C T N, w ∈ wG) (hT : (∀ k, k < N → parseFieldDescriptor (T k).2.2.1 = some (ty0 k)) ∧ (∀ a, a < N → ∀ b, b < N → a ≠ b → (T a).2.1 ≠ (T b).2.1)) (g q k : Nat) (h1 : gs[g]? = some gl) (h2 : gl[q]? = some (b, .inr (ci, fs))) (hk : k < N) (hlink : Cond.fieldLink own index (T k).1 (T k).2.1 (T k).2.2.1 ∈ wG) (hfin : (T k).2.2.2 = true) (hdecl : (T k).1 = own) (hn : narrow (ty0 k) v = v) (hfit : fits (ty0 k) v = true) (hl9 : k < fs.length) (hg : gs.set g (gl.set q (b, .inr (ci, fs.set k v))) = gs') (K : GW p l e R s m args below meth c A D nL cells slots Q (pc + 3) lv st gs') : GW p l e R s m args below meth c A D nL cells slots Q pc lv (v :: .ref b :: st) gs := fun H locs ls hP hD hS hl => by
  obtain ⟨i, hi, hs⟩ := fl_get gs g q h1 h2
  refine va_putF X.1 X.2.1 X.2.2.2.2.1 hC.2 ty0 hT.1 hT.2 X.2.2.2.1 X.2.2.2.2.2.1 hP hD hS i hi hC.1 k hk (X.2.2.2.2.1 _ hlink) (fun _ h => h) hfin hin hdecl (hT.1 k hk) hn hfit hl9 d (fun H1 locs1 hP1 hD1 hS1 => ?_)
  rw [← hs] at hP1 hD1
  exact K H1 locs1 ls (hg ▸ hP1) (hg ▸ hD1) hS1 hl
theorem g_iaload (X : gK p s m args meth c A D cy ad cc nL own) {b n : Nat} {gl : va_W} {f : Nat → Int32} {i : Int32} (d : decode cc pc = .ok (.iaload, 1)) (g q : Nat) (h1 : gs[g]? = some gl) (h2 : gl[q]? = some (b, .inl (cy 0, n, .inl f))) (hin : ¬ (i < 0 ∨ n ≤ i.toNatClampNeg)) (K : GW p l e R s m args below meth c A D nL cells slots Q (pc + 1) lv (.int (f i.toNatClampNeg) :: st) gs) : GW p l e R s m args below meth c A D nL cells slots Q pc lv (.int i :: .ref b :: st) gs := fun H locs ls hP hD hS hl => by
  obtain ⟨i9, hi, -⟩ := fl_get gs g q h1 h2
  exact va_iald X.1 X.2.1 X.2.2.2.2.2.1 hP i9 0 hi rfl hin d (K H locs ls hP hD hS hl)
theorem g_caload (X : gK p s m args meth c A D cy ad cc nL own) {b n : Nat} {gl : va_W} {f : Nat → Int32} {i : Int32} (d : decode cc pc = .ok (.caload, 1)) (g q : Nat) (h1 : gs[g]? = some gl) (h2 : gl[q]? = some (b, .inl (cy 1, n, .inl f))) (hin : ¬ (i < 0 ∨ n ≤ i.toNatClampNeg)) (K : GW p l e R s m args below meth c A D nL cells slots Q (pc + 1) lv (.int (f i.toNatClampNeg) :: st) gs) : GW p l e R s m args below meth c A D nL cells slots Q pc lv (.int i :: .ref b :: st) gs := fun H locs ls hP hD hS hl => by
  obtain ⟨i9, hi, -⟩ := fl_get gs g q h1 h2
  exact va_cald X.1 X.2.1 X.2.2.2.2.2.1 hP i9 1 hi rfl hin d (K H locs ls hP hD hS hl)
theorem g_iastore (X : gK p s m args meth c A D cy ad cc nL own) {b n : Nat} {gl : va_W} {f : Nat → Int32} {i : Int32} {x : Int32} {gs' : List va_W} (d : decode cc pc = .ok (.iastore, 1)) (g q : Nat) (h1 : gs[g]? = some gl) (h2 : gl[q]? = some (b, .inl (cy 0, n, .inl f))) (hin : ¬ (i < 0 ∨ n ≤ i.toNatClampNeg)) (hg : gs.set g (gl.set q (b, .inl (cy 0, n, .inl (upd f i.toNatClampNeg x)))) = gs') (K : GW p l e R s m args below meth c A D nL cells slots Q (pc + 1) lv st gs') : GW p l e R s m args below meth c A D nL cells slots Q pc lv (.int x :: .int i :: .ref b :: st) gs := fun H locs ls hP hD hS hl => by
  obtain ⟨i9, hi, hs⟩ := fl_get gs g q h1 h2
  refine va_iast X.1 X.2.1 X.2.2.2.2.2.1 hP hD hS i9 0 hi rfl hin d (fun H1 locs1 hP1 hD1 hS1 => ?_)
  rw [← hs] at hP1 hD1
  exact K H1 locs1 ls (hg ▸ hP1) (hg ▸ hD1) hS1 hl
theorem g_castore (X : gK p s m args meth c A D cy ad cc nL own) {b n : Nat} {gl : va_W} {f : Nat → Int32} {i : Int32} {x : Int32} {gs' : List va_W} (d : decode cc pc = .ok (.castore, 1)) (g q : Nat) (h1 : gs[g]? = some gl) (h2 : gl[q]? = some (b, .inl (cy 1, n, .inl f))) (hin : ¬ (i < 0 ∨ n ≤ i.toNatClampNeg)) (hg : gs.set g (gl.set q (b, .inl (cy 1, n, .inl (upd f i.toNatClampNeg (vp_nar .char x))))) = gs') (K : GW p l e R s m args below meth c A D nL cells slots Q (pc + 1) lv st gs') : GW p l e R s m args below meth c A D nL cells slots Q pc lv (.int x :: .int i :: .ref b :: st) gs := fun H locs ls hP hD hS hl => by
  obtain ⟨i9, hi, hs⟩ := fl_get gs g q h1 h2
  refine va_cast X.1 X.2.1 X.2.2.2.2.2.1 hP hD hS i9 1 hi rfl hin d (fun H1 locs1 hP1 hD1 hS1 => ?_)
  rw [← hs] at hP1 hD1
  exact K H1 locs1 ls (hg ▸ hP1) (hg ▸ hD1) hS1 hl
theorem g_aaload (X : gK p s m args meth c A D cy ad cc nL own) {b n : Nat} {gl : va_W} {f : Nat → Option Nat} {i : Int32} (d : decode cc pc = .ok (.aaload, 1)) (g q : Nat) (h1 : gs[g]? = some gl) (h2 : gl[q]? = some (b, .inl (cy 3, n, .inr (.inr (.inr (.inr f)))))) (hin : ¬ (i < 0 ∨ n ≤ i.toNatClampNeg)) (K : GW p l e R s m args below meth c A D nL cells slots Q (pc + 1) lv (va_rf (f i.toNatClampNeg) :: st) gs) : GW p l e R s m args below meth c A D nL cells slots Q pc lv (.int i :: .ref b :: st) gs := fun H locs ls hP hD hS hl => by
  obtain ⟨i9, hi, -⟩ := fl_get gs g q h1 h2
  exact va_aldq X.1 X.2.1 X.2.2.2.2.2.1 hP i9 3 hi rfl hin d (K H locs ls hP hD hS hl)
theorem g_alen0 (X : gK p s m args meth c A D cy ad cc nL own) {b : Nat} {gl : va_W} {x : vp_A} {v : Int32} (d : decode cc pc = .ok (.arraylength, 1)) (g q : Nat) (h1 : gs[g]? = some gl) (h2 : gl[q]? = some (b, .inl (cy 0, x))) (hv : Int32.ofNat x.1 = v) (K : GW p l e R s m args below meth c A D nL cells slots Q (pc + 1) lv (.int v :: st) gs) : GW p l e R s m args below meth c A D nL cells slots Q pc lv (.ref b :: st) gs := fun H locs ls hP hD hS hl => by
  obtain ⟨i9, hi, -⟩ := fl_get gs g q h1 h2
  exact va_alen X.1 X.2.1 X.2.2.2.2.2.1 hP i9 0 hi rfl hv d (K H locs ls hP hD hS hl)
theorem g_alen1 (X : gK p s m args meth c A D cy ad cc nL own) {b : Nat} {gl : va_W} {x : vp_A} {v : Int32} (d : decode cc pc = .ok (.arraylength, 1)) (g q : Nat) (h1 : gs[g]? = some gl) (h2 : gl[q]? = some (b, .inl (cy 1, x))) (hv : Int32.ofNat x.1 = v) (K : GW p l e R s m args below meth c A D nL cells slots Q (pc + 1) lv (.int v :: st) gs) : GW p l e R s m args below meth c A D nL cells slots Q pc lv (.ref b :: st) gs := fun H locs ls hP hD hS hl => by
  obtain ⟨i9, hi, -⟩ := fl_get gs g q h1 h2
  exact va_alen X.1 X.2.1 X.2.2.2.2.2.1 hP i9 1 hi rfl hv d (K H locs ls hP hD hS hl)
theorem g_alen3 (X : gK p s m args meth c A D cy ad cc nL own) {b : Nat} {gl : va_W} {x : vp_A} {v : Int32} (d : decode cc pc = .ok (.arraylength, 1)) (g q : Nat) (h1 : gs[g]? = some gl) (h2 : gl[q]? = some (b, .inl (cy 3, x))) (hv : Int32.ofNat x.1 = v) (K : GW p l e R s m args below meth c A D nL cells slots Q (pc + 1) lv (.int v :: st) gs) : GW p l e R s m args below meth c A D nL cells slots Q pc lv (.ref b :: st) gs := fun H locs ls hP hD hS hl => by
  obtain ⟨i9, hi, -⟩ := fl_get gs g q h1 h2
  exact va_alen X.1 X.2.1 X.2.2.2.2.2.1 hP i9 3 hi rfl hv d (K H locs ls hP hD hS hl)
theorem g_mmax (X : gK p s m args meth c A D cy ad cc nL own) {index : Nat} {x y : Int32} (d : decode cc pc = .ok (.invokestatic index, 3)) (hlink : Cond.methodLink own index Lib.Math.max.name ∈ wG) (hw : Cond.static Lib.Math.max.name ∈ wG ∧ Cond.initialized "java/lang/Math" ∈ wG ∧ Cond.code Lib.Math.max.name Lib.Math.max.code 2 (some .int) ∈ wG) (hR : 1 ≤ R.frames ∧ (st.map fun v => v.category).sum + 13 ≤ R.locals ∧ cells ≤ R.cells ∧ slots ≤ R.slots) (K : GW p l e R s m args below meth c A D nL cells slots Q (pc + 3) lv (.int (if x < y then y else x) :: st) gs) : GW p l e R s m args below meth c A D nL cells slots Q pc lv (.int y :: .int x :: st) gs := fun H locs ls hP hD hS hl =>
  va_mmax X.1 X.2.1 (X.2.2.1.trans hl.1.symm) X.2.2.2.1 (X.2.2.2.2.1 _ hlink) (X.2.2.2.2.1 _ hw.1) (X.2.2.2.2.1 _ hw.2.1) (X.2.2.2.2.1 _ hw.2.2) hR.1 hR.2.1 hR.2.2.1 hR.2.2.2 d (K H locs ls hP hD hS hl)
theorem g_mmin (X : gK p s m args meth c A D cy ad cc nL own) {index : Nat} {x y : Int32} (d : decode cc pc = .ok (.invokestatic index, 3)) (hlink : Cond.methodLink own index Lib.Math.min.name ∈ wG) (hw : Cond.static Lib.Math.min.name ∈ wG ∧ Cond.initialized "java/lang/Math" ∈ wG ∧ Cond.code Lib.Math.min.name Lib.Math.min.code 2 (some .int) ∈ wG) (hR : 1 ≤ R.frames ∧ (st.map fun v => v.category).sum + 13 ≤ R.locals ∧ cells ≤ R.cells ∧ slots ≤ R.slots) (K : GW p l e R s m args below meth c A D nL cells slots Q (pc + 3) lv (.int (if y < x then y else x) :: st) gs) : GW p l e R s m args below meth c A D nL cells slots Q pc lv (.int y :: .int x :: st) gs := fun H locs ls hP hD hS hl =>
  va_mmin X.1 X.2.1 (X.2.2.1.trans hl.1.symm) X.2.2.2.1 (X.2.2.2.2.1 _ hlink) (X.2.2.2.2.1 _ hw.1) (X.2.2.2.2.1 _ hw.2.1) (X.2.2.2.2.1 _ hw.2.2) hR.1 hR.2.1 hR.2.2.1 hR.2.2.2 d (K H locs ls hP hD hS hl)
end GWR
