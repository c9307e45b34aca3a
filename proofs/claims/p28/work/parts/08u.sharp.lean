/-! ===== the sharpest weighing ===== -/
theorem shl_SetC {c d : Nat} (hd : d < c) (hc : c < 13) : SetC c ((1 : Int32) <<< (i3 d &&& 31)) := fun b hb => by
  rw [bt_shl1 (by omega)]
  exact decide_eq_false (by omega)
theorem shl_Sm {d : Nat} (hd : d < 13) : Sm ((1 : Int32) <<< (i3 d &&& 31)) := fun b hb => by
  rw [bt_shl1 hd]
  exact decide_eq_false (by omega)
theorem zero_Sm : Sm 0 := fun b _ => bt_zero b
abbrev sA (d : Nat) : Int32 := (1 : Int32) <<< (i3 d &&& 31)
def sB (d : Nat) : Int32 := if d = 12 then 0 else sA d
theorem sAB {c d e : Nat} (hc : c < 13) (hd : d < c) (he : e = 12 ∨ (e < c ∧ e ≠ d)) : Sm (sA d) ∧ Sm (sB e) ∧ bt (sA d) 12 = false ∧ bt (sB e) 12 = false ∧ ∀ q, ¬ (bt (sA d) q = true ∧ bt (sB e) q = true) := by
  refine ⟨shl_Sm (by omega), ?_, ?_, ?_, ?_⟩
  · unfold sB
    by_cases h : e = 12
    · rw [if_pos h]; exact zero_Sm
    · rw [if_neg h]; exact shl_Sm (by omega)
  · rw [bt_shl1 (by omega)]; exact decide_eq_false (by omega)
  · unfold sB
    by_cases h : e = 12
    · rw [if_pos h]; exact bt_zero 12
    · rw [if_neg h, bt_shl1 (by omega)]; exact decide_eq_false (by omega)
  · rintro q ⟨h1, h2⟩
    rw [bt_shl1 (by omega)] at h1
    have h1 : q = d := by simpa using h1
    subst h1
    unfold sB at h2
    rcases he with he | he
    · rw [if_pos he, bt_zero] at h2; exact nomatch h2
    · by_cases h : e = 12
      · rw [if_pos h, bt_zero] at h2; exact nomatch h2
      · rw [if_neg h, bt_shl1 (by omega)] at h2
        have h2 : q = e := by simpa using h2
        exact he.2 h2.symm
def prs (P : Nat → Bool) (a b la ra : Int32) : Int32 := i3 (cn P a b la ra 0 * cn P a b la ra 1 + cn P a b la ra 0 * cn P a b la ra 2 + cn P a b la ra 1 * cn P a b la ra 2)
theorem sh_step {tb : TBv} {su r v : Fn} {c m L d e : Nat} {v0 : MOv} (hT : TabR c m tb su r) (hG : GathR v L (fitB r m) (nC c)) (hd : d < c) (he : e ≤ 12) (mo1 f1 : Int32) (sc : SCv) (ta : TAv) (v8 : Fn) :
    ∃ mo2 f2 sc' ta' v8', f_X7_sharpest_B20 tb su (i3 d) (mo1, f1, i3 e, sc, ta) = some (.inl (mo2, f2, i3 (e + 1), sc', ta')) ∧ f_X8_sharpest_B32 (moL v0 (i3 L)) r v (i3 d) (f1, mo1, i3 e, v8) = some (.inl (f2, mo2, i3 (e + 1), v8')) ∧ ((∀ a b, prs (PR r c m) a b (r 2) (r 3) = 0) → mo1 = 0 → mo2 = mo1 ∧ f2 = f1) := by
  have hc : c < 13 := by have := hT.1.1.2; omega
  have n0 : (0 : Int32).toNatClampNeg = 0 := by decide
  have n1 : (1 : Int32).toNatClampNeg = 1 := by decide
  have n2 : (2 : Int32).toNatClampNeg = 2 := by decide
  have n3 : (3 : Int32).toNatClampNeg = 3 := by decide
  have hj1 : i3 e + (1 : Int32) = i3 (e + 1) := i3_add e 1
  have h12 : ¬ (12 : Int32) < i3 e := by show ¬ i3 12 < i3 e; rw [i3_lt (by decide) (by omega)]; omega
  have e12 : (i3 e = (12 : Int32)) ↔ e = 12 := i3_eq (by omega) (by decide : 12 < 2 ^ 31)
  have g12 : ((12 : Int32) ≤ i3 e) ↔ e = 12 := by
    show i3 12 ≤ i3 e ↔ _
    rw [i3_le (by decide) (by omega)]
    omega
  have ed : (i3 e = i3 d) ↔ e = d := i3_eq (by omega) (by omega)
  have lc : (i3 e < i3 c) ↔ e < c := i3_lt (by omega) (by omega)
  have gc : (i3 c ≤ i3 e) ↔ c ≤ e := i3_le (by omega) (by omega)
  by_cases hok : e = 12 ∨ (e < c ∧ e ≠ d)
  · obtain ⟨s1, s2, s3, s4, s5⟩ := sAB hc hd hok
    obtain ⟨v8', hW, w0, w1, w2⟩ := worst_eq hc hG v0 v8 (sA d) (sB e) (r 2) (r 3) s3 s4
    have hF := fore_eq hT sc ta s1 s2 s5
    have hP := pairs_eq (PR r c m) (sA d) (sB e) (r 2) (r 3)
    have A1 : f_X7_sharpest_B20_b77 tb su sc ta mo1 f1 (i3 d) (i3 e) (sB e) (sA d) = (if prs (PR r c m) (sA d) (sB e) (r 2) (r 3) ≤ mo1 then some (.inl (mo1, f1, i3 (e + 1), scOf (sA d) (sB e) (r 2) (r 3), tal (PR r c m) (sA d) (sB e) (r 2) (r 3))) else some (.inl (prs (PR r c m) (sA d) (sB e) (r 2) (r 3), ((100 : Int32) * i3 d) + i3 e, i3 (e + 1), scOf (sA d) (sB e) (r 2) (r 3), tal (PR r c m) (sA d) (sB e) (r 2) (r 3)))) := by
      unfold f_X7_sharpest_B20_b77 f_X7_sharpest_B20_b111
      rw [hF, Option.bind_some, hP, Option.bind_some, Option.bind_some, hj1]
      rfl
    have A2 : f_X8_sharpest_B32_b82 (moL v0 (i3 L)) r v v8 f1 mo1 (i3 d) (i3 e) (sB e) (sA d) = (if prs (PR r c m) (sA d) (sB e) (r 2) (r 3) ≤ mo1 then some (.inl (f1, mo1, i3 (e + 1), v8')) else some (.inl (((100 : Int32) * i3 d) + i3 e, prs (PR r c m) (sA d) (sB e) (r 2) (r 3), i3 (e + 1), v8'))) := by
      unfold f_X8_sharpest_B32_b82 f_X8_sharpest_B32_b141 f_X8_sharpest_B32_b158 f_X8_sharpest_B32_b171 f_X8_sharpest_B32_b172
      rw [n2, n3, hW, Option.bind_some, n0, n1]
      show (if (v8' 0 * v8' 1 + v8' 0 * v8' 2 + v8' 1 * v8' 2) ≤ mo1 then (if (v8' 0 * v8' 1 + v8' 0 * v8' 2 + v8' 1 * v8' 2) ≤ mo1 then _ else _) else (if (v8' 0 * v8' 1 + v8' 0 * v8' 2 + v8' 1 * v8' 2) ≤ mo1 then _ else _)) = _
      rw [w0, w1, w2, i3_mul, i3_mul, i3_mul, i3_add, i3_add, hj1]
      unfold prs
      by_cases hle : i3 (cn (PR r c m) (sA d) (sB e) (r 2) (r 3) 0 * cn (PR r c m) (sA d) (sB e) (r 2) (r 3) 1 + cn (PR r c m) (sA d) (sB e) (r 2) (r 3) 0 * cn (PR r c m) (sA d) (sB e) (r 2) (r 3) 2 + cn (PR r c m) (sA d) (sB e) (r 2) (r 3) 1 * cn (PR r c m) (sA d) (sB e) (r 2) (r 3) 2) ≤ mo1
      · simp only [hle, if_true]
      · simp only [hle, if_false]
        rw [w0, w1, w2, i3_mul, i3_mul, i3_mul, i3_add, i3_add]
    have B1 : f_X7_sharpest_B20 tb su (i3 d) (mo1, f1, i3 e, sc, ta) = f_X7_sharpest_B20_b77 tb su sc ta mo1 f1 (i3 d) (i3 e) (sB e) (sA d) := by
      unfold f_X7_sharpest_B20 f_X7_sharpest_B20_b55
      rw [if_neg h12, if_neg (fun z => by have := ed.mp z; omega), hT.2.1.1]
      unfold sB
      by_cases h : e = 12
      · rw [if_neg (fun z => by have := lc.mp z; omega), if_pos (g12.mpr h), if_pos (g12.mpr h), if_pos h]
      · rw [if_pos (lc.mpr (by omega)), if_neg (fun z => h (g12.mp z)), if_neg h]
    have B2 : f_X8_sharpest_B32 (moL v0 (i3 L)) r v (i3 d) (f1, mo1, i3 e, v8) = f_X8_sharpest_B32_b82 (moL v0 (i3 L)) r v v8 f1 mo1 (i3 d) (i3 e) (sB e) (sA d) := by
      unfold f_X8_sharpest_B32 f_X8_sharpest_B32_b63
      rw [if_neg h12, n0, hT.1.2.2.2.1]
      unfold sB
      by_cases h : e = 12
      · rw [if_pos (e12.mpr h), if_pos (e12.mpr h), if_pos h]
      · rw [if_neg (fun z => h (e12.mp z)), if_neg (fun z => by have := gc.mp z; omega), if_neg (fun z => by have := ed.mp z; omega), if_neg (fun z => h (e12.mp z)), if_neg h]
    rw [B1, B2, A1, A2]
    by_cases hle : prs (PR r c m) (sA d) (sB e) (r 2) (r 3) ≤ mo1
    · rw [if_pos hle, if_pos hle]; exact ⟨_, _, _, _, _, rfl, rfl, fun _ _ => ⟨rfl, rfl⟩⟩
    · rw [if_neg hle, if_neg hle]; exact ⟨_, _, _, _, _, rfl, rfl, fun h0 h1 => absurd (show prs (PR r c m) (sA d) (sB e) (r 2) (r 3) ≤ mo1 by rw [h0, h1]; decide) hle⟩
  · have hn12 : ¬ e = 12 := fun z => hok (Or.inl z)
    refine ⟨mo1, f1, sc, ta, v8, ?_, ?_, fun _ _ => ⟨rfl, rfl⟩⟩
    · unfold f_X7_sharpest_B20 f_X7_sharpest_B20_b111
      rw [if_neg h12, hj1, hT.2.1.1]
      by_cases h : e = d
      · rw [if_pos (ed.mpr h)]
      · rw [if_neg (fun z => h (ed.mp z)), if_neg (fun z => hok (Or.inr ⟨lc.mp z, h⟩)), if_neg (fun z => hn12 (g12.mp z))]
    · unfold f_X8_sharpest_B32 f_X8_sharpest_B32_b172
      rw [if_neg h12, n0, hT.1.2.2.2.1, hj1, if_neg (fun z => hn12 (e12.mp z))]
      by_cases h : c ≤ e
      · rw [if_pos (gc.mpr h)]
      · rw [if_neg (fun z => h (gc.mp z)), if_pos (ed.mpr (by
          by_cases h2 : e = d
          · exact h2
          · exact absurd (Or.inr ⟨by omega, h2⟩) hok))]
theorem sh_inner {tb : TBv} {su r v : Fn} {c m L d : Nat} {v0 : MOv} (hT : TabR c m tb su r) (hG : GathR v L (fitB r m) (nC c)) (hd : d < c) (mo1 f1 : Int32) (h0 : (∀ a b, prs (PR r c m) a b (r 2) (r 3) = 0) → mo1 = 0 ∧ f1 = -1) (sc : SCv) (ta : TAv) (v8 : Fn) :
    ∃ e1 e2, itl (f_X7_sharpest_B20 tb su (i3 d)) FU (mo1, f1, (0 : Int32), sc, ta) = some e1 ∧ itl (f_X8_sharpest_B32 (moL v0 (i3 L)) r v (i3 d)) FU (f1, mo1, (0 : Int32), v8) = some e2 ∧ (e1.1 = e2.2.1 ∧ e1.2.1 = e2.1 ∧ ((∀ a b, prs (PR r c m) a b (r 2) (r 3) = 0) → e1.1 = 0 ∧ e1.2.1 = -1)) := by
  refine itl_pair (fun n (z1 : Int32 × Int32 × Int32 × SCv × TAv) (z2 : Int32 × Int32 × Int32 × Fn) => ∃ j, j ≤ 13 ∧ n = 13 - j ∧ z1.2.2.1 = i3 j ∧ z2.2.2.1 = i3 j ∧ z1.1 = z2.2.1 ∧ z1.2.1 = z2.1 ∧ ((∀ a b, prs (PR r c m) a b (r 2) (r 3) = 0) → z1.1 = 0 ∧ z1.2.1 = -1)) (fun (e1 : Int32 × Int32 × SCv × TAv) (e2 : Int32 × Int32 × Fn) => e1.1 = e2.2.1 ∧ e1.2.1 = e2.1 ∧ ((∀ a b, prs (PR r c m) a b (r 2) (r 3) = 0) → e1.1 = 0 ∧ e1.2.1 = -1)) ?_ FU 13 _ _ (by decide) ⟨0, by decide, rfl, rfl, rfl, rfl, rfl, h0⟩
  rintro n ⟨l1, f1, j1, sc, ta⟩ ⟨b2, l2, j2, v8⟩ ⟨j, hj, rfl, e1, e2, e3, e4, e5⟩
  have e1 : j1 = i3 j := e1
  have e2 : j2 = i3 j := e2
  have e3 : l1 = l2 := e3
  have e4 : f1 = b2 := e4
  subst e1
  subst e2
  subst e3
  subst e4
  by_cases h13 : j = 13
  · subst h13
    refine Or.inl ⟨(l1, f1, sc, ta), (f1, l1, v8), ?_, ?_, rfl, rfl, e5⟩
    · unfold f_X7_sharpest_B20
      exact if_pos (by decide : (12 : Int32) < i3 13)
    · unfold f_X8_sharpest_B32
      exact if_pos (by decide : (12 : Int32) < i3 13)
  · obtain ⟨x1, x2, x3, x4, x5, h1, h2, h3⟩ := sh_step (v0 := v0) hT hG hd (show j ≤ 12 by omega) l1 f1 sc ta v8
    refine Or.inr ⟨_, _, 13 - (j + 1), by omega, h1, h2, j + 1, by omega, rfl, rfl, rfl, rfl, rfl, fun hz => ?_⟩
    obtain ⟨k1, k2⟩ := e5 hz
    obtain ⟨k3, k4⟩ := h3 hz k1
    exact ⟨k3.trans k1, k4.trans k2⟩
theorem sh_outer {tb : TBv} {su r v : Fn} {c m L : Nat} {v0 : MOv} (hT : TabR c m tb su r) (hG : GathR v L (fitB r m) (nC c)) (sc : SCv) (ta : TAv) (v8 : Fn) :
    ∃ e1 e2, itl (f_X7_sharpest_B6 tb su) FU ((0 : Int32), (-1 : Int32), (0 : Int32), sc, ta) = some e1 ∧ itl (f_X8_sharpest_B19 (moL v0 (i3 L)) r v) FU ((-1 : Int32), (0 : Int32), (0 : Int32), v8) = some e2 ∧ e1.1 = e2.1 ∧ ((∀ a b, prs (PR r c m) a b (r 2) (r 3) = 0) → e1.1 = -1) := by
  have hc : c < 13 := by have := hT.1.1.2; omega
  have n0 : (0 : Int32).toNatClampNeg = 0 := by decide
  refine itl_pair (fun n (z1 : Int32 × Int32 × Int32 × SCv × TAv) (z2 : Int32 × Int32 × Int32 × Fn) => ∃ j, j ≤ c ∧ n = c - j ∧ z1.2.2.1 = i3 j ∧ z2.2.2.1 = i3 j ∧ z1.1 = z2.2.1 ∧ z1.2.1 = z2.1 ∧ ((∀ a b, prs (PR r c m) a b (r 2) (r 3) = 0) → z1.1 = 0 ∧ z1.2.1 = -1)) (fun (e1 : Int32 × SCv × TAv) (e2 : Int32 × Fn) => e1.1 = e2.1 ∧ ((∀ a b, prs (PR r c m) a b (r 2) (r 3) = 0) → e1.1 = -1)) ?_ FU c _ _ (by unfold FU; omega) ⟨0, by omega, rfl, rfl, rfl, rfl, rfl, fun _ => ⟨rfl, rfl⟩⟩
  rintro n ⟨l1, f1, j1, sc, ta⟩ ⟨b2, l2, j2, v8⟩ ⟨j, hj, rfl, e1, e2, e3, e4, e5⟩
  have e1 : j1 = i3 j := e1
  have e2 : j2 = i3 j := e2
  have e3 : l1 = l2 := e3
  have e4 : f1 = b2 := e4
  subst e1
  subst e2
  subst e3
  subst e4
  by_cases hjc : j = c
  · subst hjc
    have hle : i3 j ≤ i3 j := (i3_le (by omega) (by omega)).mpr (Nat.le_refl j)
    refine Or.inl ⟨(f1, sc, ta), (f1, v8), ?_, ?_, rfl, fun hz => (e5 hz).2⟩
    · unfold f_X7_sharpest_B6
      rw [hT.2.1.1]
      exact if_pos hle
    · unfold f_X8_sharpest_B19
      rw [n0, hT.1.2.2.2.1]
      exact if_pos hle
  · have hn : ¬ i3 c ≤ i3 j := by rw [i3_le (by omega) (by omega)]; omega
    obtain ⟨y1, y2, h1, h2, h3, h4, h5⟩ := sh_inner (v0 := v0) hT hG (show j < c by omega) l1 f1 e5 sc ta v8
    refine Or.inr ⟨(y1.1, y1.2.1, i3 j + (1 : Int32), y1.2.2.1, y1.2.2.2), (y2.1, y2.2.1, i3 j + (1 : Int32), y2.2.2), c - (j + 1), by omega, ?_, ?_, j + 1, by omega, rfl, i3_add j 1, i3_add j 1, h3, h4, h5⟩
    · unfold f_X7_sharpest_B6
      rw [hT.2.1.1, if_neg hn]
      show (itl (f_X7_sharpest_B20 tb su (i3 j)) FU (l1, f1, (0 : Int32), sc, ta)).bind _ = _
      rw [h1]
      rfl
    · unfold f_X8_sharpest_B19
      rw [n0, hT.1.2.2.2.1, if_neg hn]
      show (itl (f_X8_sharpest_B32 (moL v0 (i3 L)) r v (i3 j)) FU (f1, l1, (0 : Int32), v8)).bind _ = _
      rw [h2]
      rfl
