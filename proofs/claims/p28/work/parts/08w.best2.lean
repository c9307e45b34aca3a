/-! ===== the best weighing: the loops ===== -/
abbrev T3 : Type := Int32 × Int32 × Int32
def bst (P : Nat → Bool) (la ra : Int32) (t : T3) (a b : Int32) : T3 := if t.2.2 = (-1 : Int32) then (a, b, i3 (w3 P a b la ra)) else if t.2.2 ≤ i3 (w3 P a b la ra) then t else (a, b, i3 (w3 P a b la ra))
def gst (P : Nat → Bool) (la ra : Int32) (a : Nat) (t : T3) (b : Nat) : T3 := if (i3 a &&& i3 b) = 0 then bst P la ra t (i3 a) (i3 b) else t
theorem getD_mem {L : List Nat} {i : Nat} (h : i < L.length) : L.getD i 0 ∈ L := by
  rw [List.getD_eq_getElem?_getD, List.getElem?_eq_getElem h]
  exact List.getElem_mem h
theorem take_one {L : List Nat} {i : Nat} (h : i < L.length) : L.take (i + 1) = L.take i ++ [L.getD i 0] := by
  rw [List.take_add_one, List.getD_eq_getElem?_getD, List.getElem?_eq_getElem h]
  rfl
theorem foldl_take {S : Type} (G : S → Nat → S) (t0 : S) {L : List Nat} {i : Nat} (h : i < L.length) : (L.take (i + 1)).foldl G t0 = G ((L.take i).foldl G t0) (L.getD i 0) := by
  rw [take_one h, List.foldl_append]
  rfl
theorem foldl_fil {S : Type} (G : S → Nat → S) (t0 : S) (p : Nat → Bool) (i : Nat) : ((List.range (i + 1)).filter p).foldl G t0 = if p i = true then G (((List.range i).filter p).foldl G t0) i else ((List.range i).filter p).foldl G t0 := by
  rw [List.range_succ, List.filter_append, List.foldl_append]
  by_cases h : p i = true
  · rw [if_pos h, List.filter_cons_of_pos h]
    rfl
  · rw [if_neg h, List.filter_cons_of_neg h]
    rfl
theorem pow_c {c : Nat} (hc : c < 13) : 2 ^ c < 8192 := by
  have h : 2 ^ c ≤ 2 ^ 12 := Nat.pow_le_pow_right (by decide) (by omega)
  omega
theorem shl_c : ∀ c, c < 13 → (1 : Int32) <<< (i3 c &&& 31) = i3 (2 ^ c) := by decide +kernel
theorem bC_step1 {tb : TBv} {su r v14 v15 : Fn} {c m i j : Nat} (hT : TabR c m tb su r) (hL : LsR v14 12 1) (x2 : Int32) (hi : i < (stj 1 c).length) (hj : j < (stj 1 c).length) (t1 t2 t3 : Int32) (sc : SCv) (ta : TAv) : ∃ sc' ta', f_X7_best_B100v1 tb su v14 v15 x2 (i3 (2 ^ c)) (i3 i) (t1, t2, t3, i3 j, sc, ta) = some (.inl ((gst (PR r c m) (r 2) (r 3) ((stj 1 c).getD i 0) (t1, t2, t3) ((stj 1 c).getD j 0)).1, (gst (PR r c m) (r 2) (r 3) ((stj 1 c).getD i 0) (t1, t2, t3) ((stj 1 c).getD j 0)).2.1, (gst (PR r c m) (r 2) (r 3) ((stj 1 c).getD i 0) (t1, t2, t3) ((stj 1 c).getD j 0)).2.2, i3 (j + 1), sc', ta')) := by
  have hc : c < 13 := by have := hT.1.1.2; omega
  have hpc := pow_c hc
  obtain ⟨l1, l2, -⟩ := hL c hT.1.1.1 hT.1.1.2
  have ea := l2 i hi
  have eb := l2 j hj
  have ha := stj_lt (getD_mem hi)
  have hb := stj_lt (getD_mem hj)
  have hi' : i < 12 := by omega
  have hj' : j < 12 := by omega
  generalize (stj 1 c).getD i 0 = a at ea ha ⊢
  generalize (stj 1 c).getD j 0 = b at eb hb ⊢
  have ni : ¬ (i3 i < 0 ∨ 12 ≤ (i3 i).toNatClampNeg) := i3_in hi' (by decide)
  have nj : ¬ (i3 j < 0 ∨ 12 ≤ (i3 j).toNatClampNeg) := i3_in hj' (by decide)
  have vi : v14 (i3 i).toNatClampNeg = i3 a := by rw [i3_nat (by omega)]; exact ea
  have vj : v14 (i3 j).toNatClampNeg = i3 b := by rw [i3_nat (by omega)]; exact eb
  have hj1 : i3 j + (1 : Int32) = i3 (j + 1) := i3_add j 1
  have n1 : ¬ (12 : Int32) ≤ i3 j := by show ¬ i3 12 ≤ i3 j; rw [i3_le (by decide) (by omega)]; omega
  have n2 : ¬ i3 (2 ^ c) ≤ i3 b := by rw [i3_le (by omega) (by omega)]; omega
  unfold f_X7_best_B100v1
  rw [if_neg n1, if_neg nj, vj, if_neg n2, if_neg ni, if_neg nj, vi]
  unfold gst
  by_cases hd : (i3 a &&& i3 b) = 0
  · rw [if_pos hd, if_pos hd, if_neg ni, if_neg nj, fore_eq hT sc ta ((SetC.mk hc ha).sm hc) ((SetC.mk hc hb).sm hc) ((and_zero_iff _ _).mp hd), Option.bind_some]
    have hW := worstT_eq (PR r c m) (i3 a) (i3 b) (r 2) (r 3)
    have e168 : f_X7_best_B100v1_b168 tb su (scOf (i3 a) (i3 b) (r 2) (r 3)) (tal (PR r c m) (i3 a) (i3 b) (r 2) (r 3)) v14 v15 x2 (i3 (2 ^ c)) (i3 i) (i3 j) = some (.inl (i3 a, i3 b, i3 (w3 (PR r c m) (i3 a) (i3 b) (r 2) (r 3)), i3 (j + 1), scOf (i3 a) (i3 b) (r 2) (r 3), tal (PR r c m) (i3 a) (i3 b) (r 2) (r 3))) := by
      unfold f_X7_best_B100v1_b168 f_X7_best_B100v1_b189
      rw [hW, Option.bind_some, if_neg ni, if_neg nj, vi, vj, hj1]
    have e189 : f_X7_best_B100v1_b189 tb su (scOf (i3 a) (i3 b) (r 2) (r 3)) (tal (PR r c m) (i3 a) (i3 b) (r 2) (r 3)) v14 v15 x2 (i3 (2 ^ c)) t1 t2 t3 (i3 i) (i3 j) = some (.inl (t1, t2, t3, i3 (j + 1), scOf (i3 a) (i3 b) (r 2) (r 3), tal (PR r c m) (i3 a) (i3 b) (r 2) (r 3))) := by
      unfold f_X7_best_B100v1_b189
      rw [hj1]
    unfold bst
    refine ⟨scOf (i3 a) (i3 b) (r 2) (r 3), tal (PR r c m) (i3 a) (i3 b) (r 2) (r 3), ?_⟩
    by_cases h1 : t3 = (-1 : Int32)
    · rw [if_pos h1, if_pos h1]
      exact e168
    · rw [if_neg h1, if_neg h1, hW, Option.bind_some]
      by_cases h2 : t3 ≤ i3 (w3 (PR r c m) (i3 a) (i3 b) (r 2) (r 3))
      · rw [if_pos h2, if_pos h2]
        exact e189
      · rw [if_neg h2, if_neg h2]
        exact e168
  · rw [if_neg hd, if_neg hd]
    unfold f_X7_best_B100v1_b189
    rw [hj1]
    exact ⟨sc, ta, rfl⟩
theorem bC_stop1 {tb : TBv} {su v14 v15 : Fn} {c : Nat} (h3 : 3 ≤ c) (h12 : c ≤ 12) (hL : LsR v14 12 1) (x2 x8 t1 t2 t3 : Int32) (sc : SCv) (ta : TAv) : f_X7_best_B100v1 tb su v14 v15 x2 (i3 (2 ^ c)) x8 (t1, t2, t3, i3 (stj 1 c).length, sc, ta) = some (.inr (t1, t2, t3, sc, ta)) ∧ f_X7_best_B81v1 tb su v14 v15 x2 (i3 (2 ^ c)) (t1, t2, t3, i3 (stj 1 c).length, sc, ta) = some (.inr (t1, t2, t3, sc, ta)) := by
  have hpc := pow_c (show c < 13 by omega)
  obtain ⟨l1, -, l3⟩ := hL c h3 h12
  generalize (stj 1 c).length = n at l1 l3 ⊢
  by_cases hn : n = 12
  · subst hn
    unfold f_X7_best_B100v1 f_X7_best_B81v1
    exact ⟨if_pos (by decide : (12 : Int32) ≤ i3 12), if_pos (by decide : (12 : Int32) ≤ i3 12)⟩
  · obtain ⟨x, x1, x2', x3⟩ := l3 (by omega)
    have n1 : ¬ (12 : Int32) ≤ i3 n := by show ¬ i3 12 ≤ i3 n; rw [i3_le (by decide) (by omega)]; omega
    have nj : ¬ (i3 n < 0 ∨ 12 ≤ (i3 n).toNatClampNeg) := i3_in (by omega) (by decide)
    have vj : v14 (i3 n).toNatClampNeg = i3 x := by rw [i3_nat (by omega)]; exact x3
    have p2 : i3 (2 ^ c) ≤ i3 x := by rw [i3_le (by omega) (by omega)]; exact x2'
    unfold f_X7_best_B100v1 f_X7_best_B81v1
    rw [if_neg n1, if_neg nj, vj, if_pos p2, if_neg n1, if_neg nj, if_pos p2]
    exact ⟨rfl, rfl⟩
theorem bC_in1 {tb : TBv} {su r v14 v15 : Fn} {c m i : Nat} (hT : TabR c m tb su r) (hL : LsR v14 12 1) (x2 : Int32) (hi : i < (stj 1 c).length) (t : T3) (sc : SCv) (ta : TAv) : ∃ e, itl (f_X7_best_B100v1 tb su v14 v15 x2 (i3 (2 ^ c)) (i3 i)) FU (t.1, t.2.1, t.2.2, (0 : Int32), sc, ta) = some e ∧ (e.1, e.2.1, e.2.2.1) = (stj 1 c).foldl (gst (PR r c m) (r 2) (r 3) ((stj 1 c).getD i 0)) t := by
  have l1 := (hL c hT.1.1.1 hT.1.1.2).1
  refine itl_inv (fun k (z : Int32 × Int32 × Int32 × Int32 × SCv × TAv) => z.2.2.2.1 = i3 k ∧ (z.1, z.2.1, z.2.2.1) = ((stj 1 c).take k).foldl (gst (PR r c m) (r 2) (r 3) ((stj 1 c).getD i 0)) t) (fun (e : Int32 × Int32 × Int32 × SCv × TAv) => (e.1, e.2.1, e.2.2.1) = (stj 1 c).foldl (gst (PR r c m) (r 2) (r 3) ((stj 1 c).getD i 0)) t) (stj 1 c).length ?_ ?_ _ ⟨rfl, rfl⟩ (by unfold FU; omega)
  · rintro k ⟨t1, t2, t3, x, sc, ta⟩ hk ⟨h1, h2⟩
    have h1 : x = i3 k := h1
    subst h1
    obtain ⟨sc', ta', h3⟩ := bC_step1 hT hL x2 hi hk t1 t2 t3 sc ta
    refine ⟨_, h3, rfl, ?_⟩
    rw [foldl_take _ _ hk, ← h2]
  · rintro ⟨t1, t2, t3, x, sc, ta⟩ ⟨h1, h2⟩
    have h1 : x = i3 _ := h1
    subst h1
    refine ⟨_, (bC_stop1 hT.1.1.1 hT.1.1.2 hL x2 (i3 i) t1 t2 t3 sc ta).1, ?_⟩
    rw [List.take_length] at h2
    exact h2
theorem bC_out1 {tb : TBv} {su r v14 v15 : Fn} {c m : Nat} (hT : TabR c m tb su r) (hL : LsR v14 12 1) (x2 : Int32) (t : T3) (sc : SCv) (ta : TAv) : ∃ e, itl (f_X7_best_B81v1 tb su v14 v15 x2 (i3 (2 ^ c))) FU (t.1, t.2.1, t.2.2, (0 : Int32), sc, ta) = some e ∧ (e.1, e.2.1, e.2.2.1) = (stj 1 c).foldl (fun t a => (stj 1 c).foldl (gst (PR r c m) (r 2) (r 3) a) t) t := by
  have hc : c < 13 := by have := hT.1.1.2; omega
  have hpc := pow_c hc
  obtain ⟨l1, l2, -⟩ := hL c hT.1.1.1 hT.1.1.2
  refine itl_inv (fun k (z : Int32 × Int32 × Int32 × Int32 × SCv × TAv) => z.2.2.2.1 = i3 k ∧ (z.1, z.2.1, z.2.2.1) = ((stj 1 c).take k).foldl (fun t a => (stj 1 c).foldl (gst (PR r c m) (r 2) (r 3) a) t) t) (fun (e : Int32 × Int32 × Int32 × SCv × TAv) => (e.1, e.2.1, e.2.2.1) = (stj 1 c).foldl (fun t a => (stj 1 c).foldl (gst (PR r c m) (r 2) (r 3) a) t) t) (stj 1 c).length ?_ ?_ _ ⟨rfl, rfl⟩ (by unfold FU; omega)
  · rintro k ⟨t1, t2, t3, x, sc, ta⟩ hk ⟨h1, h2⟩
    have h1 : x = i3 k := h1
    subst h1
    obtain ⟨e, h3, h4⟩ := bC_in1 (v14 := v14) (v15 := v15) hT hL x2 hk (t1, t2, t3) sc ta
    have ea := l2 k hk
    have ha := stj_lt (getD_mem hk)
    refine ⟨(e.1, e.2.1, e.2.2.1, i3 k + (1 : Int32), e.2.2.2.1, e.2.2.2.2), ?_, i3_add k 1, ?_⟩
    · have n1 : ¬ (12 : Int32) ≤ i3 k := by show ¬ i3 12 ≤ i3 k; rw [i3_le (by decide) (by omega)]; omega
      have nj : ¬ (i3 k < 0 ∨ 12 ≤ (i3 k).toNatClampNeg) := i3_in (by omega) (by decide)
      have vj : v14 (i3 k).toNatClampNeg = i3 ((stj 1 c).getD k 0) := by rw [i3_nat (by omega)]; exact ea
      have n2 : ¬ i3 (2 ^ c) ≤ i3 ((stj 1 c).getD k 0) := by rw [i3_le (by omega) (by omega)]; omega
      unfold f_X7_best_B81v1 f_X7_best_B81v1_b195
      rw [if_neg n1, if_neg nj, vj, if_neg n2]
      show (itl (f_X7_best_B100v1 tb su v14 v15 x2 (i3 (2 ^ c)) (i3 k)) FU (t1, t2, t3, (0 : Int32), sc, ta)).bind _ = _
      rw [h3]
      rfl
    · rw [foldl_take _ _ hk, ← h2]
      exact h4
  · rintro ⟨t1, t2, t3, x, sc, ta⟩ ⟨h1, h2⟩
    have h1 : x = i3 _ := h1
    subst h1
    refine ⟨_, (bC_stop1 hT.1.1.1 hT.1.1.2 hL x2 (0 : Int32) t1 t2 t3 sc ta).2, ?_⟩
    rw [List.take_length] at h2
    exact h2
theorem bC_step2 {tb : TBv} {su r v14 v15 : Fn} {c m i j : Nat} (hT : TabR c m tb su r) (hL : LsR v15 66 2) (x2 : Int32) (hi : i < (stj 2 c).length) (hj : j < (stj 2 c).length) (t1 t2 t3 : Int32) (sc : SCv) (ta : TAv) : ∃ sc' ta', f_X7_best_B100 tb su v14 v15 x2 (i3 (2 ^ c)) (i3 i) (t1, t2, t3, i3 j, sc, ta) = some (.inl ((gst (PR r c m) (r 2) (r 3) ((stj 2 c).getD i 0) (t1, t2, t3) ((stj 2 c).getD j 0)).1, (gst (PR r c m) (r 2) (r 3) ((stj 2 c).getD i 0) (t1, t2, t3) ((stj 2 c).getD j 0)).2.1, (gst (PR r c m) (r 2) (r 3) ((stj 2 c).getD i 0) (t1, t2, t3) ((stj 2 c).getD j 0)).2.2, i3 (j + 1), sc', ta')) := by
  have hc : c < 13 := by have := hT.1.1.2; omega
  have hpc := pow_c hc
  obtain ⟨l1, l2, -⟩ := hL c hT.1.1.1 hT.1.1.2
  have ea := l2 i hi
  have eb := l2 j hj
  have ha := stj_lt (getD_mem hi)
  have hb := stj_lt (getD_mem hj)
  have hi' : i < 66 := by omega
  have hj' : j < 66 := by omega
  generalize (stj 2 c).getD i 0 = a at ea ha ⊢
  generalize (stj 2 c).getD j 0 = b at eb hb ⊢
  have ni : ¬ (i3 i < 0 ∨ 66 ≤ (i3 i).toNatClampNeg) := i3_in hi' (by decide)
  have nj : ¬ (i3 j < 0 ∨ 66 ≤ (i3 j).toNatClampNeg) := i3_in hj' (by decide)
  have vi : v15 (i3 i).toNatClampNeg = i3 a := by rw [i3_nat (by omega)]; exact ea
  have vj : v15 (i3 j).toNatClampNeg = i3 b := by rw [i3_nat (by omega)]; exact eb
  have hj1 : i3 j + (1 : Int32) = i3 (j + 1) := i3_add j 1
  have n1 : ¬ (66 : Int32) ≤ i3 j := by show ¬ i3 66 ≤ i3 j; rw [i3_le (by decide) (by omega)]; omega
  have n2 : ¬ i3 (2 ^ c) ≤ i3 b := by rw [i3_le (by omega) (by omega)]; omega
  unfold f_X7_best_B100
  rw [if_neg n1, if_neg nj, vj, if_neg n2, if_neg ni, if_neg nj, vi]
  unfold gst
  by_cases hd : (i3 a &&& i3 b) = 0
  · rw [if_pos hd, if_pos hd, if_neg ni, if_neg nj, fore_eq hT sc ta ((SetC.mk hc ha).sm hc) ((SetC.mk hc hb).sm hc) ((and_zero_iff _ _).mp hd), Option.bind_some]
    have hW := worstT_eq (PR r c m) (i3 a) (i3 b) (r 2) (r 3)
    have e168 : f_X7_best_B100_b168 tb su (scOf (i3 a) (i3 b) (r 2) (r 3)) (tal (PR r c m) (i3 a) (i3 b) (r 2) (r 3)) v14 v15 x2 (i3 (2 ^ c)) (i3 i) (i3 j) = some (.inl (i3 a, i3 b, i3 (w3 (PR r c m) (i3 a) (i3 b) (r 2) (r 3)), i3 (j + 1), scOf (i3 a) (i3 b) (r 2) (r 3), tal (PR r c m) (i3 a) (i3 b) (r 2) (r 3))) := by
      unfold f_X7_best_B100_b168 f_X7_best_B100_b189
      rw [hW, Option.bind_some, if_neg ni, if_neg nj, vi, vj, hj1]
    have e189 : f_X7_best_B100_b189 tb su (scOf (i3 a) (i3 b) (r 2) (r 3)) (tal (PR r c m) (i3 a) (i3 b) (r 2) (r 3)) v14 v15 x2 (i3 (2 ^ c)) t1 t2 t3 (i3 i) (i3 j) = some (.inl (t1, t2, t3, i3 (j + 1), scOf (i3 a) (i3 b) (r 2) (r 3), tal (PR r c m) (i3 a) (i3 b) (r 2) (r 3))) := by
      unfold f_X7_best_B100_b189
      rw [hj1]
    unfold bst
    refine ⟨scOf (i3 a) (i3 b) (r 2) (r 3), tal (PR r c m) (i3 a) (i3 b) (r 2) (r 3), ?_⟩
    by_cases h1 : t3 = (-1 : Int32)
    · rw [if_pos h1, if_pos h1]
      exact e168
    · rw [if_neg h1, if_neg h1, hW, Option.bind_some]
      by_cases h2 : t3 ≤ i3 (w3 (PR r c m) (i3 a) (i3 b) (r 2) (r 3))
      · rw [if_pos h2, if_pos h2]
        exact e189
      · rw [if_neg h2, if_neg h2]
        exact e168
  · rw [if_neg hd, if_neg hd]
    unfold f_X7_best_B100_b189
    rw [hj1]
    exact ⟨sc, ta, rfl⟩
theorem bC_stop2 {tb : TBv} {su v14 v15 : Fn} {c : Nat} (h3 : 3 ≤ c) (h12 : c ≤ 12) (hL : LsR v15 66 2) (x2 x8 t1 t2 t3 : Int32) (sc : SCv) (ta : TAv) : f_X7_best_B100 tb su v14 v15 x2 (i3 (2 ^ c)) x8 (t1, t2, t3, i3 (stj 2 c).length, sc, ta) = some (.inr (t1, t2, t3, sc, ta)) ∧ f_X7_best_B81 tb su v14 v15 x2 (i3 (2 ^ c)) (t1, t2, t3, i3 (stj 2 c).length, sc, ta) = some (.inr (t1, t2, t3, sc, ta)) := by
  have hpc := pow_c (show c < 13 by omega)
  obtain ⟨l1, -, l3⟩ := hL c h3 h12
  generalize (stj 2 c).length = n at l1 l3 ⊢
  by_cases hn : n = 66
  · subst hn
    unfold f_X7_best_B100 f_X7_best_B81
    exact ⟨if_pos (by decide : (66 : Int32) ≤ i3 66), if_pos (by decide : (66 : Int32) ≤ i3 66)⟩
  · obtain ⟨x, x1, x2', x3⟩ := l3 (by omega)
    have n1 : ¬ (66 : Int32) ≤ i3 n := by show ¬ i3 66 ≤ i3 n; rw [i3_le (by decide) (by omega)]; omega
    have nj : ¬ (i3 n < 0 ∨ 66 ≤ (i3 n).toNatClampNeg) := i3_in (by omega) (by decide)
    have vj : v15 (i3 n).toNatClampNeg = i3 x := by rw [i3_nat (by omega)]; exact x3
    have p2 : i3 (2 ^ c) ≤ i3 x := by rw [i3_le (by omega) (by omega)]; exact x2'
    unfold f_X7_best_B100 f_X7_best_B81
    rw [if_neg n1, if_neg nj, vj, if_pos p2, if_neg n1, if_neg nj, if_pos p2]
    exact ⟨rfl, rfl⟩
theorem bC_in2 {tb : TBv} {su r v14 v15 : Fn} {c m i : Nat} (hT : TabR c m tb su r) (hL : LsR v15 66 2) (x2 : Int32) (hi : i < (stj 2 c).length) (t : T3) (sc : SCv) (ta : TAv) : ∃ e, itl (f_X7_best_B100 tb su v14 v15 x2 (i3 (2 ^ c)) (i3 i)) FU (t.1, t.2.1, t.2.2, (0 : Int32), sc, ta) = some e ∧ (e.1, e.2.1, e.2.2.1) = (stj 2 c).foldl (gst (PR r c m) (r 2) (r 3) ((stj 2 c).getD i 0)) t := by
  have l1 := (hL c hT.1.1.1 hT.1.1.2).1
  refine itl_inv (fun k (z : Int32 × Int32 × Int32 × Int32 × SCv × TAv) => z.2.2.2.1 = i3 k ∧ (z.1, z.2.1, z.2.2.1) = ((stj 2 c).take k).foldl (gst (PR r c m) (r 2) (r 3) ((stj 2 c).getD i 0)) t) (fun (e : Int32 × Int32 × Int32 × SCv × TAv) => (e.1, e.2.1, e.2.2.1) = (stj 2 c).foldl (gst (PR r c m) (r 2) (r 3) ((stj 2 c).getD i 0)) t) (stj 2 c).length ?_ ?_ _ ⟨rfl, rfl⟩ (by unfold FU; omega)
  · rintro k ⟨t1, t2, t3, x, sc, ta⟩ hk ⟨h1, h2⟩
    have h1 : x = i3 k := h1
    subst h1
    obtain ⟨sc', ta', h3⟩ := bC_step2 hT hL x2 hi hk t1 t2 t3 sc ta
    refine ⟨_, h3, rfl, ?_⟩
    rw [foldl_take _ _ hk, ← h2]
  · rintro ⟨t1, t2, t3, x, sc, ta⟩ ⟨h1, h2⟩
    have h1 : x = i3 _ := h1
    subst h1
    refine ⟨_, (bC_stop2 hT.1.1.1 hT.1.1.2 hL x2 (i3 i) t1 t2 t3 sc ta).1, ?_⟩
    rw [List.take_length] at h2
    exact h2
theorem bC_out2 {tb : TBv} {su r v14 v15 : Fn} {c m : Nat} (hT : TabR c m tb su r) (hL : LsR v15 66 2) (x2 : Int32) (t : T3) (sc : SCv) (ta : TAv) : ∃ e, itl (f_X7_best_B81 tb su v14 v15 x2 (i3 (2 ^ c))) FU (t.1, t.2.1, t.2.2, (0 : Int32), sc, ta) = some e ∧ (e.1, e.2.1, e.2.2.1) = (stj 2 c).foldl (fun t a => (stj 2 c).foldl (gst (PR r c m) (r 2) (r 3) a) t) t := by
  have hc : c < 13 := by have := hT.1.1.2; omega
  have hpc := pow_c hc
  obtain ⟨l1, l2, -⟩ := hL c hT.1.1.1 hT.1.1.2
  refine itl_inv (fun k (z : Int32 × Int32 × Int32 × Int32 × SCv × TAv) => z.2.2.2.1 = i3 k ∧ (z.1, z.2.1, z.2.2.1) = ((stj 2 c).take k).foldl (fun t a => (stj 2 c).foldl (gst (PR r c m) (r 2) (r 3) a) t) t) (fun (e : Int32 × Int32 × Int32 × SCv × TAv) => (e.1, e.2.1, e.2.2.1) = (stj 2 c).foldl (fun t a => (stj 2 c).foldl (gst (PR r c m) (r 2) (r 3) a) t) t) (stj 2 c).length ?_ ?_ _ ⟨rfl, rfl⟩ (by unfold FU; omega)
  · rintro k ⟨t1, t2, t3, x, sc, ta⟩ hk ⟨h1, h2⟩
    have h1 : x = i3 k := h1
    subst h1
    obtain ⟨e, h3, h4⟩ := bC_in2 (v14 := v14) (v15 := v15) hT hL x2 hk (t1, t2, t3) sc ta
    have ea := l2 k hk
    have ha := stj_lt (getD_mem hk)
    refine ⟨(e.1, e.2.1, e.2.2.1, i3 k + (1 : Int32), e.2.2.2.1, e.2.2.2.2), ?_, i3_add k 1, ?_⟩
    · have n1 : ¬ (66 : Int32) ≤ i3 k := by show ¬ i3 66 ≤ i3 k; rw [i3_le (by decide) (by omega)]; omega
      have nj : ¬ (i3 k < 0 ∨ 66 ≤ (i3 k).toNatClampNeg) := i3_in (by omega) (by decide)
      have vj : v15 (i3 k).toNatClampNeg = i3 ((stj 2 c).getD k 0) := by rw [i3_nat (by omega)]; exact ea
      have n2 : ¬ i3 (2 ^ c) ≤ i3 ((stj 2 c).getD k 0) := by rw [i3_le (by omega) (by omega)]; omega
      unfold f_X7_best_B81 f_X7_best_B81_b195
      rw [if_neg n1, if_neg nj, vj, if_neg n2]
      show (itl (f_X7_best_B100 tb su v14 v15 x2 (i3 (2 ^ c)) (i3 k)) FU (t1, t2, t3, (0 : Int32), sc, ta)).bind _ = _
      rw [h3]
      rfl
    · rw [foldl_take _ _ hk, ← h2]
      exact h4
  · rintro ⟨t1, t2, t3, x, sc, ta⟩ ⟨h1, h2⟩
    have h1 : x = i3 _ := h1
    subst h1
    refine ⟨_, (bC_stop2 hT.1.1.1 hT.1.1.2 hL x2 (0 : Int32) t1 t2 t3 sc ta).2, ?_⟩
    rw [List.take_length] at h2
    exact h2
theorem bR_step {tb : TBv} {su r v : Fn} {c m L jj a b : Nat} {v0 : MOv} (hT : TabR c m tb su r) (hG : GathR v L (fitB r m) (nC c)) (x2 : Int32) (hj : jj ≤ 12) (ha : a < 2 ^ c) (hb : b < 2 ^ c) (hp : pcn a = jj) (t1 t2 t3 : Int32) (v8 : Fn) : ∃ t' v8', f_X8_best_B76 (moL v0 (i3 L)) r v (i3 jj) x2 (i3 (2 ^ c)) (i3 a) (t1, t2, t3, i3 b, v8) = some (.inl (t'.1, t'.2.1, t'.2.2, i3 (b + 1), v8')) ∧ t' = if decide (pcn b = jj) = true then gst (PR r c m) (r 2) (r 3) a (t1, t2, t3) b else (t1, t2, t3) := by
  have hc : c < 13 := by have := hT.1.1.2; omega
  have h12 : 2 ^ c ≤ 2 ^ 12 := Nat.pow_le_pow_right (by decide) (by omega)
  have n2 : (2 : Int32).toNatClampNeg = 2 := by decide
  have n3 : (3 : Int32).toNatClampNeg = 3 := by decide
  have hb1 : i3 b + (1 : Int32) = i3 (b + 1) := i3_add b 1
  have nb : ¬ i3 (2 ^ c) ≤ i3 b := by rw [i3_le (by omega) (by omega)]; omega
  have pb := pcn_le b
  have ej : (i3 (pcn b) = i3 jj) ↔ pcn b = jj := i3_eq (by omega) (by omega)
  unfold f_X8_best_B76
  rw [if_neg nb, bits_i3 (by omega), Option.bind_some, hp, if_pos rfl]
  by_cases hd : (i3 a &&& i3 b) = 0
  · rw [if_pos hd, bits_i3 (by omega), Option.bind_some]
    by_cases hq : pcn b = jj
    · rw [if_pos (ej.mpr hq)]
      obtain ⟨v8', hW, -, -, -⟩ := worst_eq hc hG v0 v8 (i3 a) (i3 b) (r 2) (r 3) ((SetC.mk hc ha).b12 hc) ((SetC.mk hc hb).b12 hc)
      have hW' : f_X8_worst (moL v0 (i3 L)) v v8 (i3 a) (i3 b) (r 2) (r 3) = some (i3 (w3 (PR r c m) (i3 a) (i3 b) (r 2) (r 3)), v8') := hW
      rw [n2, n3, hW', Option.bind_some]
      have e143 : f_X8_best_B76_b143 (moL v0 (i3 L)) r v v8' (i3 jj) x2 (i3 (2 ^ c)) t1 t2 t3 (i3 a) (i3 b) (i3 (w3 (PR r c m) (i3 a) (i3 b) (r 2) (r 3))) = some (.inl (i3 a, i3 b, i3 (w3 (PR r c m) (i3 a) (i3 b) (r 2) (r 3)), i3 (b + 1), v8')) := by
        unfold f_X8_best_B76_b143 f_X8_best_B76_b148 f_X8_best_B76_b162 f_X8_best_B76_b176 f_X8_best_B76_b190 f_X8_best_B76_b192
        rw [if_neg (show ¬ b2i true = 0 by decide), if_neg (show ¬ b2i true = 0 by decide), if_neg (show ¬ b2i true = 0 by decide), hb1]
      have e148 : f_X8_best_B76_b148 (moL v0 (i3 L)) r v v8' (i3 jj) x2 (i3 (2 ^ c)) t1 t2 t3 (i3 a) (i3 b) (i3 (w3 (PR r c m) (i3 a) (i3 b) (r 2) (r 3))) false = some (.inl (t1, t2, t3, i3 (b + 1), v8')) := by
        unfold f_X8_best_B76_b148 f_X8_best_B76_b162 f_X8_best_B76_b176 f_X8_best_B76_b190 f_X8_best_B76_b192
        rw [if_pos (show b2i false = 0 by decide), if_pos (show b2i false = 0 by decide), if_pos (show b2i false = 0 by decide), hb1]
      refine ⟨gst (PR r c m) (r 2) (r 3) a (t1, t2, t3) b, v8', ?_, by rw [if_pos (decide_eq_true hq)]⟩
      unfold gst bst
      rw [if_pos hd]
      by_cases h1 : t3 = (-1 : Int32)
      · rw [if_pos h1, if_pos h1]
        exact e143
      · rw [if_neg h1, if_neg h1]
        by_cases h2 : t3 ≤ i3 (w3 (PR r c m) (i3 a) (i3 b) (r 2) (r 3))
        · rw [if_pos h2, if_pos h2]
          exact e148
        · rw [if_neg h2, if_neg h2]
          exact e143
    · rw [if_neg (fun z => hq (ej.mp z))]
      refine ⟨(t1, t2, t3), v8, ?_, by rw [if_neg (by simpa using hq)]⟩
      unfold f_X8_best_B76_b192
      rw [hb1]
  · rw [if_neg hd]
    refine ⟨(t1, t2, t3), v8, ?_, ?_⟩
    · unfold f_X8_best_B76_b192
      rw [hb1]
    · unfold gst
      rw [if_neg hd]
      by_cases hq : pcn b = jj
      · rw [if_pos (decide_eq_true hq)]
      · rw [if_neg (by simpa using hq)]
theorem bR_in {tb : TBv} {su r v : Fn} {c m L jj a : Nat} {v0 : MOv} (hT : TabR c m tb su r) (hG : GathR v L (fitB r m) (nC c)) (x2 : Int32) (hj : jj ≤ 12) (ha : a < 2 ^ c) (t : T3) (v8 : Fn) : ∃ e, itl (f_X8_best_B76 (moL v0 (i3 L)) r v (i3 jj) x2 (i3 (2 ^ c)) (i3 a)) FU (t.1, t.2.1, t.2.2, (0 : Int32), v8) = some e ∧ (e.1, e.2.1, e.2.2.1) = if decide (pcn a = jj) = true then (stj jj c).foldl (gst (PR r c m) (r 2) (r 3) a) t else t := by
  have hc : c < 13 := by have := hT.1.1.2; omega
  have h12 : 2 ^ c ≤ 2 ^ 12 := Nat.pow_le_pow_right (by decide) (by omega)
  by_cases hp : pcn a = jj
  · rw [if_pos (decide_eq_true hp)]
    refine itl_inv (fun k (z : Int32 × Int32 × Int32 × Int32 × Fn) => z.2.2.2.1 = i3 k ∧ (z.1, z.2.1, z.2.2.1) = ((List.range k).filter (fun n => decide (pcn n = jj))).foldl (gst (PR r c m) (r 2) (r 3) a) t) (fun (e : Int32 × Int32 × Int32 × Fn) => (e.1, e.2.1, e.2.2.1) = (stj jj c).foldl (gst (PR r c m) (r 2) (r 3) a) t) (2 ^ c) ?_ ?_ _ ⟨rfl, rfl⟩ (by unfold FU; omega)
    · rintro k ⟨t1, t2, t3, x, v8⟩ hk ⟨h1, h2⟩
      have h1 : x = i3 k := h1
      subst h1
      obtain ⟨t', v8', h3, h4⟩ := bR_step (v0 := v0) hT hG x2 hj ha hk hp t1 t2 t3 v8
      refine ⟨_, h3, rfl, ?_⟩
      rw [foldl_fil, ← h2]
      exact h4
    · rintro ⟨t1, t2, t3, x, v8⟩ ⟨h1, h2⟩
      have h1 : x = i3 _ := h1
      subst h1
      refine ⟨(t1, t2, t3, v8), ?_, h2⟩
      unfold f_X8_best_B76
      exact if_pos ((i3_le (by omega) (by omega)).mpr (Nat.le_refl _))
  · rw [if_neg (by simpa using hp)]
    refine ⟨(t.1, t.2.1, t.2.2, v8), ?_, rfl⟩
    have pa := pcn_le a
    have h0 : 0 < 2 ^ c := Nat.pow_pos (by decide)
    show (f_X8_best_B76 (moL v0 (i3 L)) r v (i3 jj) x2 (i3 (2 ^ c)) (i3 a) (t.1, t.2.1, t.2.2, (0 : Int32), v8)).bind _ = _
    unfold f_X8_best_B76
    rw [if_neg (by show ¬ i3 (2 ^ c) ≤ i3 0; rw [i3_le (by omega) (by decide)]; omega), bits_i3 (by omega), Option.bind_some, if_neg (fun z => hp ((i3_eq (by omega) (by omega)).mp z))]
    rfl
theorem bR_out {tb : TBv} {su r v : Fn} {c m L jj : Nat} {v0 : MOv} (hT : TabR c m tb su r) (hG : GathR v L (fitB r m) (nC c)) (x2 : Int32) (hj : jj ≤ 12) (t : T3) (v8 : Fn) : ∃ e, itl (f_X8_best_B67 (moL v0 (i3 L)) r v (i3 jj) x2 (i3 (2 ^ c))) FU (t.1, t.2.1, t.2.2, (0 : Int32), v8) = some e ∧ (e.1, e.2.1, e.2.2.1) = (stj jj c).foldl (fun t a => (stj jj c).foldl (gst (PR r c m) (r 2) (r 3) a) t) t := by
  have hc : c < 13 := by have := hT.1.1.2; omega
  have h12 : 2 ^ c ≤ 2 ^ 12 := Nat.pow_le_pow_right (by decide) (by omega)
  refine itl_inv (fun k (z : Int32 × Int32 × Int32 × Int32 × Fn) => z.2.2.2.1 = i3 k ∧ (z.1, z.2.1, z.2.2.1) = ((List.range k).filter (fun n => decide (pcn n = jj))).foldl (fun t a => (stj jj c).foldl (gst (PR r c m) (r 2) (r 3) a) t) t) (fun (e : Int32 × Int32 × Int32 × Fn) => (e.1, e.2.1, e.2.2.1) = (stj jj c).foldl (fun t a => (stj jj c).foldl (gst (PR r c m) (r 2) (r 3) a) t) t) (2 ^ c) ?_ ?_ _ ⟨rfl, rfl⟩ (by unfold FU; omega)
  · rintro k ⟨t1, t2, t3, x, v8⟩ hk ⟨h1, h2⟩
    have h1 : x = i3 k := h1
    subst h1
    obtain ⟨e, h3, h4⟩ := bR_in (v0 := v0) hT hG x2 hj hk (t1, t2, t3) v8
    refine ⟨(e.1, e.2.1, e.2.2.1, i3 k + (1 : Int32), e.2.2.2), ?_, i3_add k 1, ?_⟩
    · unfold f_X8_best_B67 f_X8_best_B67_b198
      rw [if_neg (by show ¬ i3 (2 ^ c) ≤ i3 k; rw [i3_le (by omega) (by omega)]; omega)]
      show (itl (f_X8_best_B76 (moL v0 (i3 L)) r v (i3 jj) x2 (i3 (2 ^ c)) (i3 k)) FU (t1, t2, t3, (0 : Int32), v8)).bind _ = _
      rw [h3]
      rfl
    · rw [foldl_fil, ← h2]
      exact h4
  · rintro ⟨t1, t2, t3, x, v8⟩ ⟨h1, h2⟩
    have h1 : x = i3 _ := h1
    subst h1
    refine ⟨(t1, t2, t3, v8), ?_, h2⟩
    unfold f_X8_best_B67
    exact if_pos ((i3_le (by omega) (by omega)).mpr (Nat.le_refl _))
