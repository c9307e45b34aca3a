def R_law : String := "FalsePanLaw"
def lw_P (b : Addr) (xs : List Int32) (args : Array Value) (s : State) : Prop := args = #[.ref b] ∧ s.IntsAt b xs ∧ xs.length ≤ 260 ∧ (Jvm.Cond.and given_1 narrow_1).before args s = true
def lw_Q (_ : Array Value) (s : State) (o : Outcome) (t : State) : Prop := o = .returned (some (.int 1)) ∧ Framed s o t [] 642188 7174904
def lw_Z (below : List Frame) (a : Array Value) (s : State) : State → Prop := fun t => ∃ o, t.status = .running ∧ Ended t below o ∧ lw_Q a s o t
/-- the law's own end, with 1 on the stack, nothing written that was there before, its room as the claim has it -/
theorem lw_ret {p : Program} {l : Launch} {e : Env} {s : State} {m : MethodId} {below : List Frame} {meth : Method} {c : Code} {b : Nat} (hx : p.tables.exec = Jvm.exec) (hb : c.code = code) (hr : meth.sig.returnType = ret) (hlocks : meth.locks = false) {pc : Nat} {H : Heap} {ls : Array Slot} (hdg : decode code pc = .ok (.ireturn, 1)) : W p l e room_1 s m #[Value.ref b] below meth c H [] 642188 7174904 (lw_Z below #[Value.ref b] s) (F0 m pc ls [.int 1]) := by
  intro T hT X
  obtain ⟨fs, hret, hrun, hended, hW, hframe⟩ := X.leave (v := some (.int 1)) (hlocks := hlocks) (fun h => by rw [hr] at h; cases h)
  have hmeth' : T.vm.method? m = some meth := X.method'
  refine ⟨T.setFrames fs, ?_, .returned (some (.int 1)), hrun, hended, rfl, ⟨_, rfl⟩, hW, hframe⟩
  jvm_step X.here [X.here.top, hx, hb, hdg, hmeth', hr, ret, narrow_b1]
  (try refine ⟨rfl, ?_⟩); (try refine ⟨rfl, ?_⟩)
  first | (intro acts; rw [hret _ acts rfl rfl rfl]) | rw [hret _ _ rfl rfl rfl]
  exact Steps.refl _
/-- what holds at the law's entry: the machine, the code, the tables' words (any of lw_tbl by 'hts w (by decide +kernel)'), the script of L ints xs at the cell b, what the Statement gives of the start (any of its parts by flat_of_before) -/
def lw_At (p : Program) (s : State) (m : MethodId) (meth : Method) (c : Code) (b L : Nat) (xs : Nat → Int32) : Prop :=
  p.tables.exec = Jvm.exec ∧ c.code = code ∧ meth.sig.returnType = ret ∧ c.maxLocals = 11 ∧ s.vm.findClass R_law = some m.cls ∧ (∀ w ∈ lw_tbl, w.before #[Value.ref b] s = true) ∧ va_X b L xs s s.heap ∧ b < s.heap.size ∧ meth.locks = false ∧ (Jvm.Cond.and given_1 narrow_1).before #[Value.ref b] s = true
abbrev nvC : Cond := Jvm.Cond.and given_1 narrow_1
theorem st_r : ∀ i, i < 28 → Cond.stringRef (stO i) (stK i) (stT i) ∈ lw_tbl := fun i hi => match i, hi with
  | 0, _ => List.mem_of_getElem? (i := 376) (by decide +kernel)
  | 1, _ => List.mem_of_getElem? (i := 485) (by decide +kernel)
  | 2, _ => List.mem_of_getElem? (i := 491) (by decide +kernel)
  | 3, _ => List.mem_of_getElem? (i := 496) (by decide +kernel)
  | 4, _ => List.mem_of_getElem? (i := 497) (by decide +kernel)
  | 5, _ => List.mem_of_getElem? (i := 312) (by decide +kernel)
  | 6, _ => List.mem_of_getElem? (i := 348) (by decide +kernel)
  | 7, _ => List.mem_of_getElem? (i := 498) (by decide +kernel)
  | 8, _ => List.mem_of_getElem? (i := 583) (by decide +kernel)
  | 9, _ => List.mem_of_getElem? (i := 605) (by decide +kernel)
  | 10, _ => List.mem_of_getElem? (i := 624) (by decide +kernel)
  | 11, _ => List.mem_of_getElem? (i := 636) (by decide +kernel)
  | 12, _ => List.mem_of_getElem? (i := 637) (by decide +kernel)
  | 13, _ => List.mem_of_getElem? (i := 646) (by decide +kernel)
  | 14, _ => List.mem_of_getElem? (i := 673) (by decide +kernel)
  | 15, _ => List.mem_of_getElem? (i := 686) (by decide +kernel)
  | 16, _ => List.mem_of_getElem? (i := 688) (by decide +kernel)
  | 17, _ => List.mem_of_getElem? (i := 703) (by decide +kernel)
  | 18, _ => List.mem_of_getElem? (i := 719) (by decide +kernel)
  | 19, _ => List.mem_of_getElem? (i := 731) (by decide +kernel)
  | 20, _ => List.mem_of_getElem? (i := 743) (by decide +kernel)
  | 21, _ => List.mem_of_getElem? (i := 775) (by decide +kernel)
  | 22, _ => List.mem_of_getElem? (i := 776) (by decide +kernel)
  | 23, _ => List.mem_of_getElem? (i := 833) (by decide +kernel)
  | 24, _ => List.mem_of_getElem? (i := 838) (by decide +kernel)
  | 25, _ => List.mem_of_getElem? (i := 862) (by decide +kernel)
  | 26, _ => List.mem_of_getElem? (i := 797) (by decide +kernel)
  | 27, _ => List.mem_of_getElem? (i := 806) (by decide +kernel)
  | k + 28, h => absurd h (by omega)
set_option maxRecDepth 100000 in
theorem st_e : ∀ i, i < 28 → Cond.exactly (.string (stO i) (stK i)) "java/lang/String" ∈ flatC nvC := by decide +kernel
set_option maxRecDepth 100000 in
theorem st_c : ∀ i, i < 5 → Cond.eq (.field (.string (stO i) (stK i)) "java/lang/String" "coder" "B") (.int 0) ∈ flatC nvC := by decide +kernel
set_option maxRecDepth 100000 in
theorem st_a : ∀ i, i < 5 → Cond.arrayOf (.field (.string (stO i) (stK i)) "java/lang/String" "value" "[B") .byte ∈ flatC nvC := by decide +kernel
set_option maxRecDepth 100000 in
theorem st_l : ∀ i, i < 5 → Cond.eq (.length (.field (.string (stO i) (stK i)) "java/lang/String" "value" "[B")) (.int (Int32.ofNat (stB i).length)) ∈ flatC nvC := by decide +kernel
set_option maxRecDepth 100000 in
theorem st_b : ∀ i, i < 5 → ∀ j, j < (stB i).length → Cond.eq (.elem (.field (.string (stO i) (stK i)) "java/lang/String" "value" "[B") (.int (Int32.ofNat j))) (.int ((stB i).getD j 0)) ∈ flatC nvC := by decide +kernel
theorem ne_in : ∀ q ∈ neTab, Cond.methodLinkNest q.1 q.2.1 q.2.2.1 q.2.2.2 ∈ lw_tbl := by
  intro q hq
  simp only [neTab, List.mem_cons, List.not_mem_nil, or_false] at hq
  rcases hq with rfl | rfl | rfl | rfl | rfl | rfl | rfl | rfl | rfl | rfl
  · exact List.mem_of_getElem? (i := 38) (by decide +kernel)
  · exact List.mem_of_getElem? (i := 81) (by decide +kernel)
  · exact List.mem_of_getElem? (i := 87) (by decide +kernel)
  · exact List.mem_of_getElem? (i := 98) (by decide +kernel)
  · exact List.mem_of_getElem? (i := 169) (by decide +kernel)
  · exact List.mem_of_getElem? (i := 183) (by decide +kernel)
  · exact List.mem_of_getElem? (i := 188) (by decide +kernel)
  · exact List.mem_of_getElem? (i := 199) (by decide +kernel)
  · exact List.mem_of_getElem? (i := 512) (by decide +kernel)
  · exact List.mem_of_getElem? (i := 570) (by decide +kernel)
theorem ca_in : ∀ q ∈ caTab, Cond.castable q q ∈ lw_tbl := by
  intro q hq
  simp only [caTab, List.mem_cons, List.not_mem_nil, or_false] at hq
  rcases hq with rfl | rfl | rfl
  · exact List.mem_of_getElem? (i := 273) (by decide +kernel)
  · exact List.mem_of_getElem? (i := 341) (by decide +kernel)
  · exact List.mem_of_getElem? (i := 598) (by decide +kernel)
theorem de_in : ∀ q ∈ deTab, Cond.declares q ∈ lw_tbl := by
  intro q hq
  simp only [deTab, List.mem_cons, List.not_mem_nil, or_false] at hq
  rcases hq with rfl | rfl | rfl | rfl | rfl | rfl
  · exact List.mem_of_getElem? (i := 275) (by decide +kernel)
  · exact List.mem_of_getElem? (i := 277) (by decide +kernel)
  · exact List.mem_of_getElem? (i := 279) (by decide +kernel)
  · exact List.mem_of_getElem? (i := 274) (by decide +kernel)
  · exact List.mem_of_getElem? (i := 276) (by decide +kernel)
  · exact List.mem_of_getElem? (i := 278) (by decide +kernel)
set_option maxRecDepth 100000 in
theorem nc_in : ∀ q ∈ ncTab, Cond.not (Cond.castable q.1 q.2) ∈ flatC nvC := by decide +kernel
theorem stB_lt : ∀ i, i < 5 → (stB i).length < 2 ^ 31 := by decide
theorem L_gE {s : State} {b : Nat} (hts : ∀ w ∈ lw_tbl, w.before #[Value.ref b] s = true) (hgv : nvC.before #[Value.ref b] s = true) : ∃ ad, gE ad (fun q => s.heap.size ≤ q) s := by
  have hs := flat_of_before _ hgv
  have hA : ∀ a : Nat, a < s.heap.size → ¬ s.heap.size ≤ a := fun a h => Nat.not_le.mpr h
  have h0 : ∀ i : Nat, ∃ q : Nat × Nat, (i < 28 → vk_R (stO i) (stK i) (stT i) q.1 s) ∧ (i < 5 → va_O "java/lang/String" q.1 (fun q => s.heap.size ≤ q) s s.heap ∧ va_OF "java/lang/String" "coder" "B" (.int 0) q.1 (fun q => s.heap.size ≤ q) s s.heap ∧ va_OF "java/lang/String" "value" "[B" (.ref q.2) q.1 (fun q => s.heap.size ≤ q) s s.heap ∧ va_T .byte q.2 (stB i).length (fun j => .int ((stB i).getD j 0)) (fun q => s.heap.size ≤ q) s s.heap) := by
    intro i
    by_cases hi : i < 28
    · obtain ⟨a, c, cA, kA, q1, q2, q3, q4, q5, q6, -⟩ := Cond.exactly_spec (args := #[Value.ref b]) (first := s) (o := none) (s := s) (idx := []) (t := .string (stO i) (stK i)) (cls := "java/lang/String") (hs _ (st_e i hi))
      have hR : vk_R (stO i) (stK i) (stT i) a s := vk_R.of (hts _ (st_r i hi)) q1
      have hO : va_O "java/lang/String" a (fun q => s.heap.size ≤ q) s s.heap := ⟨cA, q3, q5, by rw [q6]; exact q2, hA a (Array.getElem?_eq_some_iff.mp q3).1⟩
      by_cases h5 : i < 5
      · obtain ⟨t, ht, hT⟩ := va_Tof (N := (stB i).length) (f := fun j => .int ((stB i).getD j 0)) (A := fun q => s.heap.size ≤ q) (stB_lt i h5) (hs _ (st_a i h5)) (va_eqt (hs _ (st_l i h5))) (fun j hj => va_eqt (hs _ (st_b i h5 j hj))) hA
        exact ⟨(a, t), fun _ => hR, fun _ => ⟨hO, vk_OFof q1 (va_eqt (hs _ (st_c i h5))) hA, vk_OFof q1 ht hA, hT⟩⟩
      · exact ⟨(a, 0), fun _ => hR, fun z => absurd z h5⟩
    · exact ⟨(0, 0), fun z => absurd z hi, fun z => absurd (Nat.lt_trans z (by decide : 5 < 28)) hi⟩
  obtain ⟨ad, had⟩ := Classical.axiomOfChoice h0
  refine ⟨(fun i => (ad i).1, fun i => (ad i).2), fun i hi => (had i).2 hi, fun i hi => (had i).1 hi, va_Zof (hts _ (List.mem_of_getElem? (i := 402) (by decide +kernel))) (hts _ (List.mem_of_getElem? (i := 20) (by decide +kernel))) (va_eqi (hs _ (by decide +kernel))) hA,
    vx_Zqof (hts _ (List.mem_of_getElem? (i := 298) (by decide +kernel))) (hts _ (List.mem_of_getElem? (i := 15) (by decide +kernel))) (hs _ (by decide +kernel)) hA, vx_Zqof (hts _ (List.mem_of_getElem? (i := 300) (by decide +kernel))) (hts _ (List.mem_of_getElem? (i := 15) (by decide +kernel))) (hs _ (by decide +kernel)) hA,
    fun q hq => va_Nw.of rfl (hts _ (ne_in q hq)), fun q hq => va_Nw.of rfl (hts _ (ca_in q hq)), fun q hq => va_Nc.of (hs _ (nc_in q hq)), fun q hq => va_Nw.of rfl (hts _ (de_in q hq))⟩
theorem L_arr {s : State} {args : Array Value} {t : FieldType} (h : (Cond.arrayClass t).before args s = true) : ∃ cA : ClassId, ArrOfT s cA t ∧ s.vm.findClass ("[" ++ t.toString) = some cA := by
  obtain ⟨c, k, comp, h1, h2, h3⟩ := Cond.arrayClass_spec h
  exact ⟨c, fun n z => ⟨fun k h => (by cases h), k, h2, comp, h3⟩, h1⟩
theorem L_K {s : State} {b : Nat} (hts : ∀ w ∈ lw_tbl, w.before #[Value.ref b] s = true) : ∃ D cy, va_K D vwCl (tyG cy) s := by
  have hw : ∀ w ∈ wG, w.before #[Value.ref b] s = true := fun w hw => hts w (List.mem_filter.mp hw).1
  obtain ⟨c0, i0, k0⟩ := u_known hw ck_X0.2 (hts (Cond.instantiable RX0 3) (List.mem_of_getElem? (i := 162) (by decide +kernel)))
  obtain ⟨c1, i1, k1⟩ := u_known hw ck_X1.2 (hts (Cond.instantiable RX1 6) (List.mem_of_getElem? (i := 97) (by decide +kernel)))
  obtain ⟨c2, i2, k2⟩ := u_known hw ck_X2.2 (hts (Cond.instantiable RX2 2) (List.mem_of_getElem? (i := 182) (by decide +kernel)))
  obtain ⟨c3, i3, k3⟩ := u_known hw ck_X3.2 (hts (Cond.instantiable RX3 1) (List.mem_of_getElem? (i := 86) (by decide +kernel)))
  obtain ⟨c4, i4, k4⟩ := u_known hw ck_X4.2 (hts (Cond.instantiable RX4 10) (List.mem_of_getElem? (i := 80) (by decide +kernel)))
  obtain ⟨c5, i5, k5⟩ := u_known hw ck_X5.2 (hts (Cond.instantiable RX5 3) (List.mem_of_getElem? (i := 198) (by decide +kernel)))
  obtain ⟨c6, i6, k6⟩ := u_known hw ck_X6.2 (hts (Cond.instantiable RX6 9) (List.mem_of_getElem? (i := 37) (by decide +kernel)))
  obtain ⟨c7, i7, k7⟩ := u_known hw ck_X7.2 (hts (Cond.instantiable RX7 9) (List.mem_of_getElem? (i := 29) (by decide +kernel)))
  obtain ⟨y0, a0, f0⟩ := L_arr (hw _ na_0)
  obtain ⟨y1, a1, f1⟩ := L_arr (hw _ na_1)
  obtain ⟨comp, y3, kA, g1, -, g2, g3, g4⟩ := Cond.arrayOver_spec (hts (Cond.arrayOver (.object "FalsePan$Table")) (List.mem_of_getElem? (i := 168) (by decide +kernel)))
  refine ⟨(fun c => match c with | 0 => c0 | 1 => c1 | 2 => c2 | 3 => c3 | 4 => c4 | 5 => c5 | 6 => c6 | _ => c7, fun c => match c with | 0 => i0 | 1 => i1 | 2 => i2 | 3 => i3 | 4 => i4 | 5 => i5 | 6 => i6 | _ => i7), fun c => match c with | 0 => y0 | 1 => y1 | 2 => y0 | 3 => y3 | _ => y0, fun c q hq => ?_, fun k q hq => ?_⟩
  · match c, hq with
    | 0, hq => cases hq; exact k0
    | 1, hq => cases hq; exact k1
    | 2, hq => cases hq; exact k2
    | 3, hq => cases hq; exact k3
    | 4, hq => cases hq; exact k4
    | 5, hq => cases hq; exact k5
    | 6, hq => cases hq; exact k6
    | 7, hq => cases hq; exact k7
    | c + 8, hq => cases hq
  · match k, hq with
    | 0, hq => cases hq; exact ⟨a0, f0⟩
    | 1, hq => cases hq; exact ⟨a1, f1⟩
    | 2, hq => cases hq; exact ⟨a0, f0⟩
    | 3, hq => cases hq; exact ⟨fun n z => ⟨fun k h => (by cases h), kA, g2, comp, g3⟩, kA, comp, g2, g3, g1, g4⟩
    | 4, hq => cases hq; exact ⟨a0, f0⟩
    | k + 5, hq => cases hq
theorem L_known {p : Program} {s : State} {m : MethodId} {meth : Method} {c : Code} {b L : Nat} {xs : Nat → Int32} (C0 : lw_At p s m meth c b L xs) : ∃ D cy ad, gK p s m #[.ref b] meth c (fun q => s.heap.size ≤ q) D cy ad cL_law 11 RL ∧ AOT s := by
  obtain ⟨hx, hc, hr, hml, hown, hts, hX, hb, hlocks, hgv⟩ := C0
  obtain ⟨D, cy, hK⟩ := L_K hts
  obtain ⟨ad, hE⟩ := L_gE hts hgv
  exact ⟨D, cy, ad, ⟨hx, hc, hml, hown, fun w hw => hts w (List.mem_filter.mp hw).1, hK, fun q h => h, hlocks, hE⟩, va_AO.of (hts (Cond.arrayOver (.object "FalsePan$Table")) (List.mem_of_getElem? (i := 168) (by decide +kernel)))⟩
