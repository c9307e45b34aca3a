/-! ===== what would be, told plainly ===== -/
theorem qu_leaves {z : RS} {c m q : Nat} {a b : Int32} (hz : ZC z c m) (hw : WS c a b) (hq : q < 3) : rc12 z a b (i3 q) = some (i3 (cn (PR z.2.1 c m) a b (z.2.1 2) (z.2.1 3) (i3 q)), z) := by
  obtain ⟨tb, su, h⟩ := hz
  have hc : c < 13 := by have := h.1.1.2; omega
  have hin : f_X8_in (i3 q).toInt64 (0 : Int64) (2 : Int64) = _ := in32 (i3 q) 0 2
  have hok : (0 : Int32) ≤ i3 q ∧ i3 q ≤ (2 : Int32) := rng_to (n := 2) (by decide) (by omega)
  have n2 : (2 : Int32).toNatClampNeg = 2 := by decide
  have n3 : (3 : Int32).toNatClampNeg = 3 := by decide
  obtain ⟨d, e1, -, e3⟩ := refuse_sets h a b
  have hd : d = true := e3.mpr hw
  subst hd
  obtain ⟨v, L, g1, g2⟩ := gath_mK h (uZ z.1) Z0
  obtain ⟨v8', W1, W2, W3, W4⟩ := worst_eq hc g2 (mK (uZ z.1) 0) Z0 a b (z.2.1 2) (z.2.1 3) (hw.1.b12 hc) (hw.2.1.b12 hc)
  have hv : v8' q = i3 (cn (PR z.2.1 c m) a b (z.2.1 2) (z.2.1 3) (i3 q)) := by
    have hq3 : q = 0 ∨ q = 1 ∨ q = 2 := by omega
    rcases hq3 with rfl | rfl | rfl
    · exact W2
    · exact W3
    · exact W4
  have E : f_X8_leaves (uZ z.1) z.2.1 Z0 Z0 a b (i3 q) = some (v8' q, moL (mK (uZ z.1) 0) (i3 L), v, v8') := by
    unfold f_X8_leaves f_X8_leaves_b34
    rw [hin, Option.bind_some, decide_eq_true hok, if_neg bfT, e1, Option.bind_some, if_neg bfT, refuse_no _, Option.bind_some, if_pos bfF, g1, Option.bind_some, n2, n3, W1, Option.bind_some, if_neg (i3_in (by omega) (by decide)), i3_nat (by omega)]
  unfold rc12
  rw [E, hv]
  rfl
/-! the best pair of sets -/
def bT (P : Nat → Bool) (la ra : Int32) (jj c : Nat) : T3 := (stj jj c).foldl (fun t a => (stj jj c).foldl (gst P la ra a) t) ((-1 : Int32), (-1 : Int32), (-1 : Int32))
theorem qu_best {z : RS} {c m jj : Nat} (hz : ZC z c m) (hjj : jj = 1 ∨ jj = 2) (what c' : Int32) (hw : (0 : Int32) ≤ what ∧ what ≤ (2 : Int32)) : rc13 z (i3 jj) what c' = some (if what = 0 then (bT (PR z.2.1 c m) (z.2.1 2) (z.2.1 3) jj c).1 else if what = (1 : Int32) then (bT (PR z.2.1 c m) (z.2.1 2) (z.2.1 3) jj c).2.1 else (bT (PR z.2.1 c m) (z.2.1 2) (z.2.1 3) jj c).2.2, z) := by
  obtain ⟨tb, su, h⟩ := hz
  have hc : c < 13 := by have := h.1.1.2; omega
  have n0 : (0 : Int32).toNatClampNeg = 0 := by decide
  have hj : (1 : Int32) ≤ i3 jj ∧ i3 jj ≤ (2 : Int32) := by rcases hjj with rfl | rfl <;> decide
  have hinj : f_X8_in (i3 jj).toInt64 (1 : Int64) (2 : Int64) = _ := in32 (i3 jj) 1 2
  have hinw : f_X8_in what.toInt64 (0 : Int64) (2 : Int64) = _ := in32 what 0 2
  obtain ⟨v, L, g1, g2⟩ := gath_mK h (uZ z.1) Z0
  obtain ⟨y, y1, y2⟩ := bR_out (jj := jj) (v0 := mK (uZ z.1) 0) h g2 what (by omega) ((-1 : Int32), (-1 : Int32), (-1 : Int32)) Z0
  have y1' : itl (f_X8_best_B67 (moL (mK (uZ z.1) 0) (i3 L)) z.2.1 v (i3 jj) what (i3 (2 ^ c))) FU ((-1 : Int32), (-1 : Int32), (-1 : Int32), (0 : Int32), Z0) = some y := y1
  have y2' : (y.1, y.2.1, y.2.2.1) = bT (PR z.2.1 c m) (z.2.1 2) (z.2.1 3) jj c := y2
  have q1 : y.1 = (bT (PR z.2.1 c m) (z.2.1 2) (z.2.1 3) jj c).1 := congrArg (fun z : T3 => z.1) y2'
  have q2 : y.2.1 = (bT (PR z.2.1 c m) (z.2.1 2) (z.2.1 3) jj c).2.1 := congrArg (fun z : T3 => z.2.1) y2'
  have q3 : y.2.2.1 = (bT (PR z.2.1 c m) (z.2.1 2) (z.2.1 3) jj c).2.2 := congrArg (fun z : T3 => z.2.2) y2'
  have R1 : f_X8_best (uZ z.1) z.2.1 Z0 Z0 (i3 jj) what = if what = 0 then some (y.1, moL (mK (uZ z.1) 0) (i3 L), v, y.2.2.2) else if what = (1 : Int32) then some (y.2.1, moL (mK (uZ z.1) 0) (i3 L), v, y.2.2.2) else some (y.2.2.1, moL (mK (uZ z.1) 0) (i3 L), v, y.2.2.2) := by
    unfold f_X8_best f_X8_best_b30
    rw [hinj, Option.bind_some, decide_eq_true hj, if_neg bfT, hinw, Option.bind_some, decide_eq_true hw, if_neg bfT, refuse_no' _, Option.bind_some, if_pos bfF, g1, Option.bind_some, n0, h.1.2.2.2.1, shl_c c hc, y1', Option.bind_some]
  unfold rc13
  rw [R1, ← q1, ← q2, ← q3]
  by_cases w0 : what = 0
  · rw [if_pos w0, if_pos w0]
    rfl
  · rw [if_neg w0, if_neg w0]
    by_cases w1 : what = (1 : Int32)
    · rw [if_pos w1, if_pos w1]
      rfl
    · rw [if_neg w1, if_neg w1]
      rfl
theorem foldl_inv {S α : Type} (I : S → Prop) (G : S → α → S) : ∀ (L : List α), (∀ s a, a ∈ L → I s → I (G s a)) → ∀ s, I s → I (L.foldl G s) := by
  intro L
  induction L with
  | nil => intro _ s h; exact h
  | cons a L ih => intro h s hs; exact ih (fun s b hb => h s b (List.mem_cons_of_mem _ hb)) _ (h s a List.mem_cons_self hs)
theorem foldl_hit {S α : Type} (N : S → Prop) (G : S → α → S) (a0 : α) (hk : ∀ s a, N s → N (G s a)) (h0 : ∀ s, N (G s a0)) : ∀ (L : List α), a0 ∈ L → ∀ s, N (L.foldl G s) := by
  intro L
  induction L with
  | nil => intro h; exact absurd h List.not_mem_nil
  | cons a L ih =>
    intro h s
    rcases List.mem_cons.mp h with rfl | h
    · exact foldl_inv N G L (fun s b _ => hk s b) _ (h0 s)
    · exact ih h _
theorem stj_pcn {j c n : Nat} (h : n ∈ stj j c) : pcn n = j := by
  unfold stj at h
  have := (List.mem_filter.mp h).2
  simpa using this
theorem stj_in {j c n : Nat} (h1 : n < 2 ^ c) (h2 : pcn n = j) : n ∈ stj j c := by
  unfold stj
  exact List.mem_filter.mpr ⟨List.mem_range.mpr h1, by simpa using h2⟩
theorem stj_WS {jj c a b : Nat} (hc : c < 13) (hjj : jj = 1 ∨ jj = 2) (ha : a ∈ stj jj c) (hb : b ∈ stj jj c) (h : (i3 a &&& i3 b) = 0) : WS c (i3 a) (i3 b) := by
  refine ⟨SetC.mk hc (stj_lt ha), SetC.mk hc (stj_lt hb), (and_zero_iff _ _).mp h, fun z => ?_⟩
  have h1 := stj_lt ha
  have hp := pow_c hc
  have hz : i3 a = 0 := by
    refine bt_ext (fun j _ => ?_)
    have := congrArg (fun x => bt x j) z
    simp only [bt_or, bt_zero, Bool.or_eq_false_iff] at this
    rw [this.1, bt_zero]
  have hz' : a = 0 := (i3_eq (b := 0) (by omega) (by decide)).mp hz
  have := stj_pcn ha
  rw [hz'] at this
  have e0 : pcn 0 = 0 := by decide
  omega
theorem bT_ok (P : Nat → Bool) (la ra : Int32) {jj c : Nat} (hc : 3 ≤ c ∧ c ≤ 12) (hjj : jj = 1 ∨ jj = 2) : (c < 2 * jj ∧ (bT P la ra jj c).2.2 = -1) ∨ (2 * jj ≤ c ∧ ∃ a b, WS c a b ∧ bT P la ra jj c = (a, b, i3 (w3 P a b la ra))) := by
  have hne : ∀ a b : Int32, ¬ i3 (w3 P a b la ra) = -1 := fun a b => i3_m1 (by have := w3_le P a b la ra; omega)
  have hJ : bT P la ra jj c = ((-1 : Int32), (-1 : Int32), (-1 : Int32)) ∨ ∃ a b, WS c a b ∧ bT P la ra jj c = (a, b, i3 (w3 P a b la ra)) := by
    unfold bT
    refine foldl_inv (fun t : T3 => t = ((-1 : Int32), (-1 : Int32), (-1 : Int32)) ∨ ∃ a b, WS c a b ∧ t = (a, b, i3 (w3 P a b la ra))) _ _ (fun t a ha ht => ?_) _ (Or.inl rfl)
    refine foldl_inv (fun t : T3 => t = ((-1 : Int32), (-1 : Int32), (-1 : Int32)) ∨ ∃ a b, WS c a b ∧ t = (a, b, i3 (w3 P a b la ra))) _ _ (fun t b hb ht => ?_) _ ht
    unfold gst
    by_cases h : (i3 a &&& i3 b) = 0
    · rw [if_pos h]
      have hw := stj_WS (by omega) hjj ha hb h
      unfold bst
      by_cases h1 : t.2.2 = (-1 : Int32)
      · rw [if_pos h1]; exact Or.inr ⟨_, _, hw, rfl⟩
      · rw [if_neg h1]
        by_cases h2 : t.2.2 ≤ i3 (w3 P (i3 a) (i3 b) la ra)
        · rw [if_pos h2]; exact ht
        · rw [if_neg h2]; exact Or.inr ⟨_, _, hw, rfl⟩
    · rw [if_neg h]; exact ht
  by_cases hle : 2 * jj ≤ c
  · have hN : ¬ (bT P la ra jj c).2.2 = -1 := by
      have hin : ∃ a0 b0, a0 ∈ stj jj c ∧ b0 ∈ stj jj c ∧ (i3 a0 &&& i3 b0) = 0 := by
        rcases hjj with rfl | rfl
        · have : (2 : Nat) ^ 3 ≤ 2 ^ c := Nat.pow_le_pow_right (by decide) hc.1
          exact ⟨1, 2, stj_in (by omega) (by decide), stj_in (by omega) (by decide), by decide⟩
        · have : (2 : Nat) ^ 4 ≤ 2 ^ c := Nat.pow_le_pow_right (by decide) hle
          exact ⟨3, 12, stj_in (by omega) (by decide), stj_in (by omega) (by decide), by decide⟩
      obtain ⟨a0, b0, ha, hb, hd⟩ := hin
      have hk : ∀ (a : Nat) (t : T3) (b : Nat), ¬ t.2.2 = -1 → ¬ (gst P la ra a t b).2.2 = -1 := by
        intro a t b ht
        unfold gst bst
        by_cases h : (i3 a &&& i3 b) = 0
        · rw [if_pos h, if_neg ht]
          by_cases h2 : t.2.2 ≤ i3 (w3 P (i3 a) (i3 b) la ra)
          · rw [if_pos h2]; exact ht
          · rw [if_neg h2]; exact hne _ _
        · rw [if_neg h]; exact ht
      unfold bT
      refine foldl_hit (fun t : T3 => ¬ t.2.2 = -1) _ a0 (fun t a ht => foldl_inv (fun t : T3 => ¬ t.2.2 = -1) _ _ (fun t b _ => hk a t b) _ ht) (fun t => ?_) _ ha _
      refine foldl_hit (fun t : T3 => ¬ t.2.2 = -1) _ b0 (fun t b => hk a0 t b) (fun t => ?_) _ hb _
      unfold gst bst
      rw [if_pos hd]
      by_cases h1 : t.2.2 = (-1 : Int32)
      · rw [if_pos h1]; exact hne _ _
      · rw [if_neg h1]
        by_cases h2 : t.2.2 ≤ i3 (w3 P (i3 a0) (i3 b0) la ra)
        · rw [if_pos h2]; exact h1
        · rw [if_neg h2]; exact hne _ _
    rcases hJ with e | e
    · rw [e] at hN; exact absurd rfl hN
    · exact Or.inr ⟨hle, e⟩
  · refine Or.inl ⟨by omega, ?_⟩
    rcases hjj with rfl | rfl
    · omega
    · have e3 : c = 3 := by omega
      subst e3
      rcases hJ with e | ⟨a, b, -, e⟩
      · rw [e]
      · exfalso
        have hno : ∀ a ∈ stj 2 3, ∀ b ∈ stj 2 3, ¬ (i3 a &&& i3 b) = 0 := by decide
        have hI : bT P la ra 2 3 = ((-1 : Int32), (-1 : Int32), (-1 : Int32)) := by
          unfold bT
          refine foldl_inv (fun t : T3 => t = ((-1 : Int32), (-1 : Int32), (-1 : Int32))) _ _ (fun t a ha ht => ?_) _ rfl
          refine foldl_inv (fun t : T3 => t = ((-1 : Int32), (-1 : Int32), (-1 : Int32))) _ _ (fun t b hb ht => ?_) _ ht
          unfold gst
          rw [if_neg (hno a ha b hb)]
          exact ht
        rw [hI] at e
        exact hne a b (congrArg (fun t : T3 => t.2.2) e).symm
/-! the best arms -/
def W2 (P : Nat → Bool) (a b : Int32) (x y : Nat) : Nat := w3 P a b (i3 x) (i3 y)
/-- the least one among the pairs of arms that were tried: those ahead of la, and those with la ahead of j -/
def BI (W : Nat → Nat → Nat) (la j : Nat) (b2 l2 : Int32) : Prop :=
  (b2 = -1 ∧ la = 1 ∧ j = 1) ∨ ∃ x y, (1 ≤ x ∧ x ≤ 20 ∧ 1 ≤ y ∧ y ≤ 20) ∧ b2 = i3 (100 * x + y) ∧ l2 = i3 (W x y) ∧ (x < la ∨ (x = la ∧ y < j)) ∧ ∀ x' y', 1 ≤ x' → 1 ≤ y' → y' ≤ 20 → (x' < la ∨ (x' = la ∧ y' < j)) → W x y ≤ W x' y' ∧ (W x' y' = W x y → 100 * x + y ≤ 100 * x' + y')
theorem qa_step {r v : Fn} {c m L la j : Nat} {v0 : MOv} {a b : Int32} (hc : c < 13) (hG : GathR v L (fitB r m) (nC c)) (hw : WS c a b) (h1 : 1 ≤ la ∧ la ≤ 20) (h2 : 1 ≤ j ∧ j ≤ 20) {b2 l2 : Int32} {v8 : Fn} (hR : BI (W2 (PR r c m) a b) la j b2 l2) :
    ∃ b2' l2' v8', f_X8_bestArms_B52 (moL v0 (i3 L)) r v a b (i3 la) (b2, l2, i3 j, v8) = some (.inl (b2', l2', i3 (j + 1), v8')) ∧ BI (W2 (PR r c m) a b) la (j + 1) b2' l2' := by
  obtain ⟨v8', hW, -, -, -⟩ := worst_eq hc hG v0 v8 a b (i3 la) (i3 j) (hw.1.b12 hc) (hw.2.1.b12 hc)
  have hq := w3_le (PR r c m) a b (i3 la) (i3 j)
  have hW' : f_X8_worst (moL v0 (i3 L)) v v8 a b (i3 la) (i3 j) = some (i3 (w3 (PR r c m) a b (i3 la) (i3 j)), v8') := hW
  have hnew : ((100 : Int32) * i3 la) + i3 j = i3 (100 * la + j) := by
    rw [show (100 : Int32) * i3 la = i3 (100 * la) from i3_mul 100 la, i3_add]
  have hj1 : i3 j + (1 : Int32) = i3 (j + 1) := i3_add j 1
  have hn20 : ¬ (20 : Int32) < i3 j := by show ¬ i3 20 < i3 j; rw [i3_lt (by decide) (by omega)]; omega
  have A2 : f_X8_bestArms_B52 (moL v0 (i3 L)) r v a b (i3 la) (b2, l2, i3 j, v8) = (if b2 = (-1 : Int32) then some (.inl (i3 (100 * la + j), i3 (w3 (PR r c m) a b (i3 la) (i3 j)), i3 (j + 1), v8')) else if l2 ≤ i3 (w3 (PR r c m) a b (i3 la) (i3 j)) then some (.inl (b2, l2, i3 (j + 1), v8')) else some (.inl (i3 (100 * la + j), i3 (w3 (PR r c m) a b (i3 la) (i3 j)), i3 (j + 1), v8'))) := by
    unfold f_X8_bestArms_B52 f_X8_bestArms_B52_b83 f_X8_bestArms_B52_b88 f_X8_bestArms_B52_b107 f_X8_bestArms_B52_b120
    rw [if_neg hn20, hW', Option.bind_some, hnew, hj1, if_neg (show ¬ b2i true = 0 by decide), if_neg (show ¬ b2i true = 0 by decide), if_pos (show b2i false = 0 by decide), if_pos (show b2i false = 0 by decide)]
  rw [A2]
  rcases hR with ⟨e1, e2, e3⟩ | ⟨x, y, hxy, e1, e2, e3, e4⟩
  · rw [if_pos e1]
    refine ⟨_, _, _, rfl, Or.inr ⟨la, j, ⟨h1.1, h1.2, h2.1, h2.2⟩, rfl, rfl, Or.inr ⟨rfl, by omega⟩, fun x' y' k1 k2 k3 k4 => ?_⟩⟩
    have : x' = la ∧ y' = j := by omega
    obtain ⟨rfl, rfl⟩ := this
    exact ⟨Nat.le_refl _, fun _ => Nat.le_refl _⟩
  · rw [if_neg (by rw [e1]; exact i3_m1 (by omega)), e2]
    have hxl : W2 (PR r c m) a b x y ≤ 78 := w3_le _ _ _ _ _
    have hql : W2 (PR r c m) a b la j ≤ 78 := w3_le _ _ _ _ _
    by_cases hle : i3 (W2 (PR r c m) a b x y) ≤ i3 (w3 (PR r c m) a b (i3 la) (i3 j))
    · rw [if_pos hle]
      have hle' : W2 (PR r c m) a b x y ≤ W2 (PR r c m) a b la j := (i3_le (by omega) (by omega)).mp hle
      refine ⟨_, _, _, rfl, Or.inr ⟨x, y, hxy, e1, rfl, by omega, fun x' y' k1 k2 k3 k4 => ?_⟩⟩
      by_cases hnw : x' = la ∧ y' = j
      · obtain ⟨rfl, rfl⟩ := hnw
        exact ⟨hle', fun _ => by omega⟩
      · exact e4 x' y' k1 k2 k3 (by omega)
    · rw [if_neg hle]
      have hlt : W2 (PR r c m) a b la j < W2 (PR r c m) a b x y := Nat.lt_of_not_le (fun z => hle ((i3_le (by omega) (by omega)).mpr z))
      refine ⟨_, _, _, rfl, Or.inr ⟨la, j, ⟨h1.1, h1.2, h2.1, h2.2⟩, rfl, rfl, Or.inr ⟨rfl, by omega⟩, fun x' y' k1 k2 k3 k4 => ?_⟩⟩
      by_cases hnw : x' = la ∧ y' = j
      · obtain ⟨rfl, rfl⟩ := hnw
        exact ⟨Nat.le_refl _, fun _ => Nat.le_refl _⟩
      · have := e4 x' y' k1 k2 k3 (by omega)
        exact ⟨by omega, fun z => by omega⟩
theorem qa_inner {r v : Fn} {c m L la : Nat} {v0 : MOv} {a b : Int32} (hc : c < 13) (hG : GathR v L (fitB r m) (nC c)) (hw : WS c a b) (h1 : 1 ≤ la ∧ la ≤ 20) {b2 l2 : Int32} {v8 : Fn} (hR : BI (W2 (PR r c m) a b) la 1 b2 l2) :
    ∃ e, itl (f_X8_bestArms_B52 (moL v0 (i3 L)) r v a b (i3 la)) FU (b2, l2, (1 : Int32), v8) = some e ∧ BI (W2 (PR r c m) a b) la 21 e.1 e.2.1 := by
  refine itl_inv (fun i (z : Int32 × Int32 × Int32 × Fn) => z.2.2.1 = i3 (i + 1) ∧ BI (W2 (PR r c m) a b) la (i + 1) z.1 z.2.1) (fun (e : Int32 × Int32 × Fn) => BI (W2 (PR r c m) a b) la 21 e.1 e.2.1) 20 ?_ ?_ (b2, l2, (1 : Int32), v8) ⟨rfl, hR⟩ (by decide)
  · rintro i ⟨b2, l2, j, v8⟩ hi ⟨e1, e2⟩
    have e1 : j = i3 (i + 1) := e1
    subst e1
    obtain ⟨b2', l2', v8', k1, k2⟩ := qa_step (v0 := v0) (v8 := v8) hc hG hw h1 (show 1 ≤ i + 1 ∧ i + 1 ≤ 20 by omega) e2
    exact ⟨_, k1, rfl, k2⟩
  · rintro ⟨b2, l2, j, v8⟩ ⟨e1, e2⟩
    have e1 : j = i3 21 := e1
    subst e1
    refine ⟨(b2, l2, v8), ?_, e2⟩
    unfold f_X8_bestArms_B52
    exact if_pos (by decide : (20 : Int32) < i3 21)
theorem qa_outer {r v : Fn} {c m L : Nat} {v0 : MOv} {a b : Int32} (hc : c < 13) (hG : GathR v L (fitB r m) (nC c)) (hw : WS c a b) (v8 : Fn) :
    ∃ e, itl (f_X8_bestArms_B42 (moL v0 (i3 L)) r v a b) FU ((-1 : Int32), (0 : Int32), (1 : Int32), v8) = some e ∧ ∃ l2, BI (W2 (PR r c m) a b) 21 1 e.1 l2 := by
  refine itl_inv (fun i (z : Int32 × Int32 × Int32 × Fn) => z.2.2.1 = i3 (i + 1) ∧ BI (W2 (PR r c m) a b) (i + 1) 1 z.1 z.2.1) (fun (e : Int32 × Fn) => ∃ l2, BI (W2 (PR r c m) a b) 21 1 e.1 l2) 20 ?_ ?_ ((-1 : Int32), (0 : Int32), (1 : Int32), v8) ⟨rfl, Or.inl ⟨rfl, rfl, rfl⟩⟩ (by decide)
  · rintro i ⟨b2, l2, j, v8⟩ hi ⟨e1, e2⟩
    have e1 : j = i3 (i + 1) := e1
    subst e1
    have hn20 : ¬ (20 : Int32) < i3 (i + 1) := by show ¬ i3 20 < i3 (i + 1); rw [i3_lt (by decide) (by omega)]; omega
    obtain ⟨y, k1, k2⟩ := qa_inner (v0 := v0) (v8 := v8) hc hG hw (show 1 ≤ i + 1 ∧ i + 1 ≤ 20 by omega) e2
    refine ⟨(y.1, y.2.1, i3 (i + 1) + (1 : Int32), y.2.2), ?_, i3_add (i + 1) 1, ?_⟩
    · unfold f_X8_bestArms_B42
      rw [if_neg hn20]
      show (itl (f_X8_bestArms_B52 (moL v0 (i3 L)) r v a b (i3 (i + 1))) FU (b2, l2, (1 : Int32), v8)).bind _ = _
      rw [k1]
      rfl
    · show BI _ (i + 1 + 1) 1 y.1 y.2.1
      rcases k2 with ⟨-, -, z⟩ | ⟨x, y9, hxy, e1, e2, e3, e4⟩
      · exact absurd z (by decide)
      · exact Or.inr ⟨x, y9, hxy, e1, e2, by omega, fun x' y' q1 q2 q3 q4 => e4 x' y' q1 q2 q3 (by omega)⟩
  · rintro ⟨b2, l2, j, v8⟩ ⟨e1, e2⟩
    have e1 : j = i3 21 := e1
    subst e1
    refine ⟨(b2, v8), ?_, l2, e2⟩
    unfold f_X8_bestArms_B42
    exact if_pos (by decide : (20 : Int32) < i3 21)
/-- with the best arms a weighing leaves the fewest cases at worst; of equal ones it is the first -/
def isBA (P : Nat → Bool) (a b : Int32) (x y : Nat) : Prop := (1 ≤ x ∧ x ≤ 20 ∧ 1 ≤ y ∧ y ≤ 20) ∧ ∀ x' y', 1 ≤ x' → x' ≤ 20 → 1 ≤ y' → y' ≤ 20 → W2 P a b x y ≤ W2 P a b x' y' ∧ (W2 P a b x' y' = W2 P a b x y → 100 * x + y ≤ 100 * x' + y')
theorem isBA_uniq {P : Nat → Bool} {a b : Int32} {x y x' y' : Nat} (h : isBA P a b x y) (h' : isBA P a b x' y') : 100 * x + y = 100 * x' + y' := by
  have h1 := h.2 x' y' h'.1.1 h'.1.2.1 h'.1.2.2.1 h'.1.2.2.2
  have h2 := h'.2 x y h.1.1 h.1.2.1 h.1.2.2.1 h.1.2.2.2
  have e : W2 P a b x y = W2 P a b x' y' := Nat.le_antisymm h1.1 h2.1
  exact Nat.le_antisymm (h1.2 e.symm) (h2.2 e)
theorem qu_try {z : RS} {c m : Nat} {a b : Int32} (hz : ZC z c m) (hw : WS c a b) (c' : Int32) : ∃ x y, isBA (PR z.2.1 c m) a b x y ∧ rc14 z a b c' = some (i3 (100 * x + y), z) := by
  obtain ⟨tb, su, h⟩ := hz
  have hc : c < 13 := by have := h.1.1.2; omega
  obtain ⟨d, e1, -, e3⟩ := refuse_sets h a b
  have hd : d = true := e3.mpr hw
  subst hd
  obtain ⟨v, L, g1, g2⟩ := gath_mK h (uZ z.1) Z0
  obtain ⟨e, k1, l2, k2⟩ := qa_outer (v0 := mK (uZ z.1) 0) hc g2 hw Z0
  rcases k2 with ⟨-, z2, -⟩ | ⟨x, y, hxy, q1, q2, q3, q4⟩
  · exact absurd z2 (by decide)
  · refine ⟨x, y, ⟨hxy, fun x' y' p1 p2 p3 p4 => q4 x' y' p1 p3 p4 (by omega)⟩, ?_⟩
    have E : f_X8_bestArms (uZ z.1) z.2.1 Z0 Z0 a b = some (e.1, moL (mK (uZ z.1) 0) (i3 L), v, e.2) := by
      unfold f_X8_bestArms f_X8_bestArms_b18
      rw [e1, Option.bind_some, if_neg bfT, refuse_no' _, Option.bind_some, if_pos bfF, g1, Option.bind_some, k1, Option.bind_some]
    unfold rc14
    rw [E, ← q1]
    rfl
