/-! ===== two loops side by side ===== -/
theorem itl_pair {S1 S2 E1 E2 : Type} {f : S1 → Option (S1 ⊕ E1)} {g : S2 → Option (S2 ⊕ E2)} (R : Nat → S1 → S2 → Prop) (RE : E1 → E2 → Prop) (hs : ∀ n s1 s2, R n s1 s2 → (∃ e1 e2, f s1 = some (.inr e1) ∧ g s2 = some (.inr e2) ∧ RE e1 e2) ∨ (∃ t1 t2 k, k < n ∧ f s1 = some (.inl t1) ∧ g s2 = some (.inl t2) ∧ R k t1 t2)) : ∀ (N n : Nat) (s1 : S1) (s2 : S2), n < N → R n s1 s2 → ∃ e1 e2, itl f N s1 = some e1 ∧ itl g N s2 = some e2 ∧ RE e1 e2 := by
  intro N
  induction N with
  | zero => intro n s1 s2 h; exact absurd h (Nat.not_lt_zero n)
  | succ N ih =>
    intro n s1 s2 h hr
    rcases hs n s1 s2 hr with ⟨e1, e2, h1, h2, h3⟩ | ⟨t1, t2, k, hk, h1, h2, h3⟩
    · refine ⟨e1, e2, ?_, ?_, h3⟩
      · show (f s1).bind _ = _
        rw [h1]; rfl
      · show (g s2).bind _ = _
        rw [h2]; rfl
    · obtain ⟨e1, e2, j1, j2, j3⟩ := ih k t1 t2 (by omega) h3
      refine ⟨e1, e2, ?_, ?_, j3⟩
      · show (f s1).bind _ = _
        rw [h1]; exact j1
      · show (g s2).bind _ = _
        rw [h2]; exact j2
theorem WS.sm {c : Nat} {a b : Int32} (h : WS c a b) (hc : c < 13) : Sm a ∧ Sm b := ⟨h.1.sm hc, h.2.1.sm hc⟩
/-! the arms that make a weighing sharpest -/
def RA (z1l z1f z2b z2l : Int32) : Prop := z1f = z2b ∧ ((z1l = -1 ∧ z2b = -1) ∨ ∃ q, q ≤ 78 ∧ z1l = i3 q ∧ z2l = i3 q ∧ ¬ z2b = -1)
theorem i3_m1 {n : Nat} (h : n < 2 ^ 31) : ¬ i3 n = -1 := fun z => by
  have h1 := i3_int h
  rw [z] at h1
  have h2 : (-1 : Int32).toInt = -1 := by decide
  omega
theorem bA_step {tb : TBv} {su r v : Fn} {c m L la j : Nat} {v0 : MOv} {a b : Int32} (hT : TabR c m tb su r) (hG : GathR v L (fitB r m) (nC c)) (hw : WS c a b) (hla : la ≤ 20) (hj : j ≤ 20) {l1 f1 b2 l2 : Int32} {sc : SCv} {ta : TAv} {v8 : Fn} (hR : RA l1 f1 b2 l2) :
    ∃ l1' f1' b2' l2' sc' ta' v8', f_X7_bestArms_B24 tb su a b (i3 la) (l1, f1, i3 j, sc, ta) = some (.inl (l1', f1', i3 (j + 1), sc', ta')) ∧ f_X8_bestArms_B52 (moL v0 (i3 L)) r v a b (i3 la) (b2, l2, i3 j, v8) = some (.inl (b2', l2', i3 (j + 1), v8')) ∧ RA l1' f1' b2' l2' := by
  have hc : c < 13 := by have := hT.1.1.2; omega
  obtain ⟨v8', hW, -, -, -⟩ := worst_eq hc hG v0 v8 a b (i3 la) (i3 j) (hw.1.b12 hc) (hw.2.1.b12 hc)
  have hF := foreW_eq (tb := tb) hT.2.2.2.1 sc ta (i3 la) (i3 j) (hw.1.sm hc) (hw.2.1.sm hc) hw.2.2.1
  have hq := w3_le (PR r c m) a b (i3 la) (i3 j)
  have hWo := worstT_eq (PR r c m) a b (i3 la) (i3 j)
  have hW' : f_X8_worst (moL v0 (i3 L)) v v8 a b (i3 la) (i3 j) = some (i3 (w3 (PR r c m) a b (i3 la) (i3 j)), v8') := hW
  have hnew : ((100 : Int32) * i3 la) + i3 j = i3 (100 * la + j) := by
    rw [show (100 : Int32) * i3 la = i3 (100 * la) from i3_mul 100 la, i3_add]
  have hne : ¬ i3 (100 * la + j) = -1 := i3_m1 (by omega)
  have hj1 : i3 j + (1 : Int32) = i3 (j + 1) := i3_add j 1
  have hn20 : ¬ (20 : Int32) < i3 j := by show ¬ i3 20 < i3 j; rw [i3_lt (by decide) (by omega)]; omega
  obtain ⟨hfb, hcase⟩ := hR
  have A1 : f_X7_bestArms_B24 tb su a b (i3 la) (l1, f1, i3 j, sc, ta) = (if l1 = (-1 : Int32) then some (.inl (i3 (w3 (PR r c m) a b (i3 la) (i3 j)), i3 (100 * la + j), i3 (j + 1), scOf a b (i3 la) (i3 j), tal (PR r c m) a b (i3 la) (i3 j))) else if l1 ≤ i3 (w3 (PR r c m) a b (i3 la) (i3 j)) then some (.inl (l1, f1, i3 (j + 1), scOf a b (i3 la) (i3 j), tal (PR r c m) a b (i3 la) (i3 j))) else some (.inl (i3 (w3 (PR r c m) a b (i3 la) (i3 j)), i3 (100 * la + j), i3 (j + 1), scOf a b (i3 la) (i3 j), tal (PR r c m) a b (i3 la) (i3 j)))) := by
    unfold f_X7_bestArms_B24 f_X7_bestArms_B24_b64 f_X7_bestArms_B24_b82
    rw [if_neg hn20, hF, Option.bind_some, hWo, Option.bind_some, Option.bind_some, hnew, hj1]
  have A2 : f_X8_bestArms_B52 (moL v0 (i3 L)) r v a b (i3 la) (b2, l2, i3 j, v8) = (if b2 = (-1 : Int32) then some (.inl (i3 (100 * la + j), i3 (w3 (PR r c m) a b (i3 la) (i3 j)), i3 (j + 1), v8')) else if l2 ≤ i3 (w3 (PR r c m) a b (i3 la) (i3 j)) then some (.inl (b2, l2, i3 (j + 1), v8')) else some (.inl (i3 (100 * la + j), i3 (w3 (PR r c m) a b (i3 la) (i3 j)), i3 (j + 1), v8'))) := by
    unfold f_X8_bestArms_B52 f_X8_bestArms_B52_b83 f_X8_bestArms_B52_b88 f_X8_bestArms_B52_b107 f_X8_bestArms_B52_b120
    rw [if_neg hn20, hW', Option.bind_some, hnew, hj1, if_neg (show ¬ b2i true = 0 by decide), if_neg (show ¬ b2i true = 0 by decide), if_pos (show b2i false = 0 by decide), if_pos (show b2i false = 0 by decide)]
  rw [A1, A2]
  rcases hcase with ⟨e1, e2⟩ | ⟨q, hq', e1, e2, e3⟩
  · rw [if_pos e1, if_pos e2]
    exact ⟨_, _, _, _, _, _, _, rfl, rfl, rfl, Or.inr ⟨_, hq, rfl, rfl, hne⟩⟩
  · rw [if_neg (by rw [e1]; exact i3_m1 (by omega)), if_neg e3, e1, e2]
    by_cases hle : i3 q ≤ i3 (w3 (PR r c m) a b (i3 la) (i3 j))
    · rw [if_pos hle, if_pos hle]
      exact ⟨_, _, _, _, _, _, _, rfl, rfl, hfb, Or.inr ⟨q, hq', rfl, rfl, e3⟩⟩
    · rw [if_neg hle, if_neg hle]
      exact ⟨_, _, _, _, _, _, _, rfl, rfl, rfl, Or.inr ⟨_, hq, rfl, rfl, hne⟩⟩
theorem bA_inner {tb : TBv} {su r v : Fn} {c m L la : Nat} {v0 : MOv} {a b : Int32} (hT : TabR c m tb su r) (hG : GathR v L (fitB r m) (nC c)) (hw : WS c a b) (hla : la ≤ 20) {l1 f1 b2 l2 : Int32} {sc : SCv} {ta : TAv} {v8 : Fn} (hR : RA l1 f1 b2 l2) :
    ∃ e1 e2, itl (f_X7_bestArms_B24 tb su a b (i3 la)) FU (l1, f1, (1 : Int32), sc, ta) = some e1 ∧ itl (f_X8_bestArms_B52 (moL v0 (i3 L)) r v a b (i3 la)) FU (b2, l2, (1 : Int32), v8) = some e2 ∧ RA e1.1 e1.2.1 e2.1 e2.2.1 := by
  refine itl_pair (fun n (z1 : Int32 × Int32 × Int32 × SCv × TAv) (z2 : Int32 × Int32 × Int32 × Fn) => ∃ j, j ≤ 21 ∧ n = 21 - j ∧ z1.2.2.1 = i3 j ∧ z2.2.2.1 = i3 j ∧ RA z1.1 z1.2.1 z2.1 z2.2.1) (fun (e1 : Int32 × Int32 × SCv × TAv) (e2 : Int32 × Int32 × Fn) => RA e1.1 e1.2.1 e2.1 e2.2.1) ?_ FU 20 _ _ (by decide) ⟨1, by decide, rfl, rfl, rfl, hR⟩
  rintro n ⟨l1, f1, j1, sc, ta⟩ ⟨b2, l2, j2, v8⟩ ⟨j, hj, rfl, e1, e2, hR⟩
  have e1 : j1 = i3 j := e1
  have e2 : j2 = i3 j := e2
  subst e1
  subst e2
  by_cases h21 : j = 21
  · subst h21
    refine Or.inl ⟨(l1, f1, sc, ta), (b2, l2, v8), ?_, ?_, hR⟩
    · unfold f_X7_bestArms_B24
      exact if_pos (by decide : (20 : Int32) < i3 21)
    · unfold f_X8_bestArms_B52
      exact if_pos (by decide : (20 : Int32) < i3 21)
  · obtain ⟨x1, x2, x3, x4, x5, x6, x7, h1, h2, h3⟩ := bA_step (v0 := v0) (sc := sc) (ta := ta) (v8 := v8) hT hG hw hla (show j ≤ 20 by omega) hR
    exact Or.inr ⟨_, _, 21 - (j + 1), by omega, h1, h2, j + 1, by omega, rfl, rfl, rfl, h3⟩
theorem bA_outer {tb : TBv} {su r v : Fn} {c m L : Nat} {v0 : MOv} {a b : Int32} (hT : TabR c m tb su r) (hG : GathR v L (fitB r m) (nC c)) (hw : WS c a b) (sc : SCv) (ta : TAv) (v8 : Fn) :
    ∃ e1 e2, itl (f_X7_bestArms_B14 tb su a b) FU ((-1 : Int32), (-1 : Int32), (1 : Int32), sc, ta) = some e1 ∧ itl (f_X8_bestArms_B42 (moL v0 (i3 L)) r v a b) FU ((-1 : Int32), (0 : Int32), (1 : Int32), v8) = some e2 ∧ e1.1 = e2.1 := by
  refine itl_pair (fun n (z1 : Int32 × Int32 × Int32 × SCv × TAv) (z2 : Int32 × Int32 × Int32 × Fn) => ∃ j, j ≤ 21 ∧ n = 21 - j ∧ z1.2.2.1 = i3 j ∧ z2.2.2.1 = i3 j ∧ RA z1.1 z1.2.1 z2.1 z2.2.1) (fun (e1 : Int32 × SCv × TAv) (e2 : Int32 × Fn) => e1.1 = e2.1) ?_ FU 20 _ _ (by decide) ⟨1, by decide, rfl, rfl, rfl, rfl, Or.inl ⟨rfl, rfl⟩⟩
  rintro n ⟨l1, f1, j1, sc, ta⟩ ⟨b2, l2, j2, v8⟩ ⟨j, hj, rfl, e1, e2, hR⟩
  have e1 : j1 = i3 j := e1
  have e2 : j2 = i3 j := e2
  subst e1
  subst e2
  by_cases h21 : j = 21
  · subst h21
    refine Or.inl ⟨(f1, sc, ta), (b2, v8), ?_, ?_, hR.1⟩
    · unfold f_X7_bestArms_B14
      exact if_pos (by decide : (20 : Int32) < i3 21)
    · unfold f_X8_bestArms_B42
      exact if_pos (by decide : (20 : Int32) < i3 21)
  · have hn20 : ¬ (20 : Int32) < i3 j := by show ¬ i3 20 < i3 j; rw [i3_lt (by decide) (by omega)]; omega
    obtain ⟨y1, y2, h1, h2, h3⟩ := bA_inner (v0 := v0) (sc := sc) (ta := ta) (v8 := v8) hT hG hw (show j ≤ 20 by omega) hR
    refine Or.inr ⟨(y1.1, y1.2.1, i3 j + (1 : Int32), y1.2.2.1, y1.2.2.2), (y2.1, y2.2.1, i3 j + (1 : Int32), y2.2.2), 21 - (j + 1), by omega, ?_, ?_, j + 1, by omega, rfl, i3_add j 1, i3_add j 1, h3⟩
    · unfold f_X7_bestArms_B14
      rw [if_neg hn20]
      show (itl (f_X7_bestArms_B24 tb su a b (i3 j)) FU (l1, f1, (1 : Int32), sc, ta)).bind _ = _
      rw [h1]
      rfl
    · unfold f_X8_bestArms_B42
      rw [if_neg hn20]
      show (itl (f_X8_bestArms_B52 (moL v0 (i3 L)) r v a b (i3 j)) FU (b2, l2, (1 : Int32), v8)).bind _ = _
      rw [h2]
      rfl
