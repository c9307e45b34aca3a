/-! ===== the same act at two objects ===== -/
/-- at all objects that stand for z: the same answer, and they stand for one thing behind it -/
def Both (F : OBv → Option (Int32 × OBv)) (z : RS) : Prop := ∃ y z', ∀ v, RelO v z → ∃ v', F v = some (y, v') ∧ RelO v' z'
theorem both_of {F : OBv → Option (Int32 × OBv)} {G : Option (Int32 × RS)} {z : RS} (H : ∀ v, RelO v z → ∃ x v' z', F v = some (x, v') ∧ G = some (x, z') ∧ RelO v' z') (h0 : ∃ v, RelO v z) : Both F z := by
  obtain ⟨v0, R0⟩ := h0
  obtain ⟨x, v', z', -, hG, -⟩ := H v0 R0
  exact ⟨x, z', fun v R => use (H v R) hG⟩
theorem both_id {F : OBv → Option (Int32 × OBv)} {z : RS} (h : Both F z) : Both (fun v => (F v).bind (fun q => some (q.1, q.2))) z := by
  obtain ⟨y, z', K⟩ := h
  refine ⟨y, z', fun v R => ?_⟩
  obtain ⟨v', E, R'⟩ := K v R
  refine ⟨v', ?_, R'⟩
  show (F v).bind _ = _
  rw [E]
  rfl
theorem both_q {F : OBv → Option (Int32 × OBv)} {G : Int32 × OBv → Option (Int32 × OBv)} {z : RS} {y0 : Int32} (hq : ∀ v, RelO v z → ∃ v1, F v = some (y0, v1) ∧ RelO v1 z) (K : Both (fun v => G (y0, v)) z) : Both (fun v => (F v).bind G) z := by
  obtain ⟨y, z', K⟩ := K
  refine ⟨y, z', fun v R => ?_⟩
  obtain ⟨v1, E, R1⟩ := hq v R
  obtain ⟨v', E', R'⟩ := K v1 R1
  refine ⟨v', ?_, R'⟩
  show (F v).bind _ = _
  rw [E]
  exact E'
theorem both_eq {F G : OBv → Option (Int32 × OBv)} {z : RS} (h : Both F z) (e : ∀ v, G v = F v) : Both G z := by
  obtain ⟨y, z', K⟩ := h
  exact ⟨y, z', fun v R => by rw [e]; exact K v R⟩
theorem b_6 {z : RS} (h0 : ∃ v, RelO v z) (a b c : Int32) : Both (fun v => (f_O_call v 6 a b c).bind (fun q => some (q.1, q.2))) z := both_id (both_of (fun v R => call_6 R a b c) h0)
theorem b_7 {z : RS} (h0 : ∃ v, RelO v z) (a b c : Int32) : Both (fun v => (f_O_call v 7 a b c).bind (fun q => some (q.1, q.2))) z := both_id (both_of (fun v R => call_7 R a b c) h0)
theorem b_8 {z : RS} (h0 : ∃ v, RelO v z) (a b c : Int32) : Both (fun v => (f_O_call v 8 a b c).bind (fun q => some (q.1, q.2))) z := both_id (both_of (fun v R => call_8 R a b c) h0)
theorem b_9 {z : RS} (h0 : ∃ v, RelO v z) (a b c : Int32) : Both (fun v => (f_O_call v 9 a b c).bind (fun q => some (q.1, q.2))) z := both_id (both_of (fun v R => call_9 R a b c) h0)
theorem b_10 {z : RS} (h0 : ∃ v, RelO v z) (a b c : Int32) : Both (fun v => (f_O_call v 10 a b c).bind (fun q => some (q.1, q.2))) z := both_id (both_of (fun v R => call_10 R a b c) h0)
theorem b_11 {z : RS} (h0 : ∃ v, RelO v z) (a b c : Int32) : Both (fun v => (f_O_call v 11 a b c).bind (fun q => some (q.1, q.2))) z := both_id (both_of (fun v R => call_11 R a b c) h0)
theorem b_15 {z : RS} (h0 : ∃ v, RelO v z) (a b c : Int32) : Both (fun v => (f_O_call v 15 a b c).bind (fun q => some (q.1, q.2))) z := both_id (both_of (fun v R => call_15 R a b c) h0)
theorem b_16 {z : RS} (h0 : ∃ v, RelO v z) (a b c : Int32) : Both (fun v => (f_O_call v 16 a b c).bind (fun q => some (q.1, q.2))) z := both_id (both_of (fun v R => call_16 R a b c) h0)
theorem b_acc {z : RS} (h0 : ∃ v, RelO v z) (a : Int32) (y : Bool) : Both (fun v => f_L_act_b180 v y a) z := both_eq (both_id (both_of (fun v R => call_acc R a y) h0)) (fun v => rfl)
theorem b_155 {z : RS} (h0 : ∃ v, RelO v z) (a b : Int32) : Both (fun v => f_L_act_b155 v a b 7) z := both_eq (b_7 h0 b a 0) (fun v => rfl)
theorem b_135 {z : RS} (h0 : ∃ v, RelO v z) (x2 a : Int32) : Both (fun v => f_L_act_b135 v x2 a 7) z := by
  by_cases h : (x2 - x2 / (3 : Int32) * (3 : Int32)) = 0
  · exact both_eq (b_155 h0 _ a) (fun v => by unfold f_L_act_b135; rw [if_pos h])
  · exact both_eq (b_155 h0 _ a) (fun v => by unfold f_L_act_b135; rw [if_neg h])
theorem b_31 {z : RS} {c m : Nat} (hz : ZC z c m) (h0 : ∃ v, RelO v z) (x1 x2 x4 x5 : Int32) : Both (fun v => f_L_act_b31 v x1 x2 (i3 c) x4 x5) z := by
  by_cases k0 : (x1 - x1 / (16 : Int32) * (16 : Int32)) = (0 : Int32)
  · exact both_eq (b_6 h0 _ _ 0) (fun v => by unfold f_L_act_b31; rw [if_pos k0])
  · have hh : True := trivial
    by_cases k1 : (x1 - x1 / (16 : Int32) * (16 : Int32)) = (1 : Int32)
    · by_cases hq : (x2 - x2 / (3 : Int32) * (3 : Int32)) = 0
      · exact both_eq (b_135 h0 x2 _) (fun v => by unfold f_L_act_b31; rw [if_neg k0, if_pos k1, if_pos hq])
      · exact both_eq (b_135 h0 x2 _) (fun v => by unfold f_L_act_b31; rw [if_neg k0, if_pos k1, if_neg hq])
    · have hh : True := trivial
      by_cases k2 : (x1 - x1 / (16 : Int32) * (16 : Int32)) = (2 : Int32)
      · by_cases hq : (x2 - x2 / (3 : Int32) * (3 : Int32)) = 0
        · exact both_eq (b_135 h0 x2 _) (fun v => by unfold f_L_act_b31; rw [if_neg k0, if_neg k1, if_pos k2, if_pos hq])
        · exact both_eq (b_135 h0 x2 _) (fun v => by unfold f_L_act_b31; rw [if_neg k0, if_neg k1, if_pos k2, if_neg hq])
      · have hh : True := trivial
        by_cases k3 : (x1 - x1 / (16 : Int32) * (16 : Int32)) = (3 : Int32)
        · by_cases hq : ((x2 / (12 : Int32)) - (x2 / (12 : Int32)) / (2 : Int32) * (2 : Int32)) = (1 : Int32)
          · exact both_eq (b_acc h0 _ true) (fun v => by unfold f_L_act_b31; rw [if_neg k0, if_neg k1, if_neg k2, if_pos k3, if_pos hq])
          · exact both_eq (b_acc h0 _ false) (fun v => by unfold f_L_act_b31; rw [if_neg k0, if_neg k1, if_neg k2, if_pos k3, if_neg hq])
        · have hh : True := trivial
          by_cases k4 : (x1 - x1 / (16 : Int32) * (16 : Int32)) = (4 : Int32)
          · exact both_eq (b_9 h0 _ 0 0) (fun v => by unfold f_L_act_b31; rw [if_neg k0, if_neg k1, if_neg k2, if_neg k3, if_pos k4])
          · have hh : True := trivial
            by_cases k5 : (x1 - x1 / (16 : Int32) * (16 : Int32)) = (5 : Int32)
            · exact both_eq (b_10 h0 0 0 0) (fun v => by unfold f_L_act_b31; rw [if_neg k0, if_neg k1, if_neg k2, if_neg k3, if_neg k4, if_pos k5])
            · have hh : True := trivial
              by_cases k6 : (x1 - x1 / (16 : Int32) * (16 : Int32)) = (6 : Int32)
              · have hb : Both (fun v => (f_O_call v (2 : Int32) (3 : Int32) (0 : Int32) (0 : Int32)).bind (fun q1001 => if (2 : Int32) ≤ q1001.1 then (f_O_call q1001.2 (11 : Int32) (0 : Int32) (0 : Int32) (0 : Int32)).bind (fun q1002 => some (q1002.1, q1002.2)) else some ((-1 : Int32), q1001.2))) z := by
                  refine both_q (fun v R => use (call_2 R 3 0 0) (ab_3 hz 0 0)) ?_
                  by_cases hq : (2 : Int32) ≤ i3 m
                  · exact both_eq (b_11 h0 0 0 0) (fun v => if_pos hq)
                  · exact ⟨-1, z, fun v R => ⟨v, if_neg hq, R⟩⟩
                exact both_eq hb (fun v => by unfold f_L_act_b31; rw [if_neg k0, if_neg k1, if_neg k2, if_neg k3, if_neg k4, if_neg k5, if_pos k6])
              · have hh : True := trivial
                by_cases k7 : (x1 - x1 / (16 : Int32) * (16 : Int32)) = (7 : Int32)
                · by_cases hq : (x2 - x2 / (2 : Int32) * (2 : Int32)) = 0
                  · exact both_eq (b_15 h0 _ 0 0) (fun v => by unfold f_L_act_b31; rw [if_neg k0, if_neg k1, if_neg k2, if_neg k3, if_neg k4, if_neg k5, if_neg k6, if_pos k7, if_pos hq])
                  · exact both_eq (b_16 h0 _ 0 0) (fun v => by unfold f_L_act_b31; rw [if_neg k0, if_neg k1, if_neg k2, if_neg k3, if_neg k4, if_neg k5, if_neg k6, if_pos k7, if_neg hq])
                · have hh : True := trivial
                  by_cases k8 : (x1 - x1 / (16 : Int32) * (16 : Int32)) = (8 : Int32)
                  · exact both_eq (b_8 h0 _ _ 0) (fun v => by unfold f_L_act_b31; rw [if_neg k0, if_neg k1, if_neg k2, if_neg k3, if_neg k4, if_neg k5, if_neg k6, if_neg k7, if_pos k8])
                  · have hh : True := trivial
                    by_cases k9 : (x1 - x1 / (16 : Int32) * (16 : Int32)) = (9 : Int32)
                    · exact both_eq (b_8 h0 _ _ 0) (fun v => by unfold f_L_act_b31; rw [if_neg k0, if_neg k1, if_neg k2, if_neg k3, if_neg k4, if_neg k5, if_neg k6, if_neg k7, if_neg k8, if_pos k9])
                    · have hh : True := trivial
                      by_cases k10 : (x1 - x1 / (16 : Int32) * (16 : Int32)) = (10 : Int32)
                      · exact both_eq (b_8 h0 _ _ 0) (fun v => by unfold f_L_act_b31; rw [if_neg k0, if_neg k1, if_neg k2, if_neg k3, if_neg k4, if_neg k5, if_neg k6, if_neg k7, if_neg k8, if_neg k9, if_pos k10])
                      · have hh : True := trivial
                        have hc := hz.c
                        have hn : ¬ i3 c = 0 := fun q => by
                          have := (i3_eq (b := 0) (by omega) (by decide)).mp q
                          omega
                        exact both_eq (b_8 h0 _ _ 0) (fun v => by unfold f_L_act_b31; rw [if_neg k0, if_neg k1, if_neg k2, if_neg k3, if_neg k4, if_neg k5, if_neg k6, if_neg k7, if_neg k8, if_neg k9, if_neg k10, if_neg hn, if_neg hn])
theorem act_ok {z : RS} (h0 : ∃ v, RelO v z) (x : Int32) : Both (fun v => f_L_act v x) z := by
  obtain ⟨v0, R0⟩ := h0
  obtain ⟨c, m, hz⟩ := R0.zc
  have K := b_31 hz ⟨v0, R0⟩ x (x / (16 : Int32)) (((1 : Int32) <<< (i3 c &&& 31)) - (1 : Int32)) (((x / (16 : Int32)) - (x / (16 : Int32)) / (4096 : Int32) * (4096 : Int32)) &&& (((1 : Int32) <<< (i3 c &&& 31)) - (1 : Int32)))
  have hb := both_q (G := fun q980 => f_L_act_b31 q980.2 x (x / (16 : Int32)) q980.1 (((1 : Int32) <<< (q980.1 &&& 31)) - (1 : Int32)) (((x / (16 : Int32)) - (x / (16 : Int32)) / (4096 : Int32) * (4096 : Int32)) &&& (((1 : Int32) <<< (q980.1 &&& 31)) - (1 : Int32)))) (fun v R => use (call_2 R 0 0 0) (ab_0 hz 0 0)) K
  exact both_eq hb (fun v => by unfold f_L_act; exact rfl)
/-! ===== two objects that stand for one thing answer alike ===== -/
theorem both2 {F : OBv → Option (Int32 × OBv)} {G : Option (Int32 × RS)} {z : RS} (hG : ∀ x z', G = some (x, z') → z' = z) (H : ∀ v, RelO v z → ∃ x v' z', F v = some (x, v') ∧ G = some (x, z') ∧ RelO v' z') {v w : OBv} (R : RelO v z) (R' : RelO w z) : ∃ x v' w', F v = some (x, v') ∧ F w = some (x, w') ∧ RelO v' z ∧ RelO w' z := by
  obtain ⟨x, v', z', h1, h2, h3⟩ := H v R
  have e := hG x z' h2
  subst e
  obtain ⟨w', k1, k2⟩ := use (H w R') h2
  exact ⟨x, v', w', h1, k1, h3, k2⟩
theorem fix_2 (z : RS) (a b c : Int32) : ∀ x z', rc2 z a b c = some (x, z') → z' = z := by
  intro x z' h
  unfold rc2 at h
  obtain ⟨q, -, h⟩ := obind h
  cases (Option.some.inj h)
  rfl
theorem fix_3 (z : RS) (a b c : Int32) : ∀ x z', rc3 z a b c = some (x, z') → z' = z := by
  intro x z' h
  unfold rc3 at h
  obtain ⟨q, -, h⟩ := obind h
  cases (Option.some.inj h)
  rfl
theorem fix_4 (z : RS) (a b c : Int32) : ∀ x z', rc4 z a b c = some (x, z') → z' = z := by
  intro x z' h
  unfold rc4 at h
  obtain ⟨q, -, h⟩ := obind h
  cases (Option.some.inj h)
  rfl
theorem fix_5 (z : RS) (a b c : Int32) : ∀ x z', rc5 z a b c = some (x, z') → z' = z := by
  intro x z' h
  unfold rc5 at h
  obtain ⟨q, -, h⟩ := obind h
  cases (Option.some.inj h)
  rfl
theorem fix_sim (z : RS) (s : Int64) (m : Int32) : ∀ x z', rcSim z s m = some (x, z') → z' = z := by
  intro x z' h
  unfold rcSim at h
  obtain ⟨q, -, h⟩ := obind h
  cases (Option.some.inj h)
  rfl
theorem alike_step {z : RS} (x2 : Int32) {v w : OBv} {k : Int32} (R : RelO v z) (R' : RelO w z) (hk : ¬ (20 : Int32) ≤ k) : ∃ v' w', f_L_alike_B58 x2 (true, k, v, w) = some (.inl (true, k + (1 : Int32), v', w')) ∧ RelO v' z ∧ RelO w' z := by
  unfold f_L_alike_B58
  rw [if_neg hk, if_neg bfT]
  obtain ⟨x, v, w, E, E', R, R'⟩ := both2 (fix_2 z k 0 0) (fun v R => call_2 R k 0 0) R R'
  show ∃ v' w', ((f_O_call _ (2 : Int32) k (0 : Int32) (0 : Int32)).bind _ : Option _) = _ ∧ _
  rw [E, Option.bind_some, E', Option.bind_some, if_pos rfl]
  obtain ⟨x, v, w, E, E', R, R'⟩ := both2 (fix_3 z k 0 0) (fun v R => call_3 R k 0 0) R R'
  rw [E, Option.bind_some, E', Option.bind_some, if_pos rfl]
  obtain ⟨x, v, w, E, E', R, R'⟩ := both2 (fix_5 z k (x2 - x2 / (6 : Int32) * (6 : Int32)) 0) (fun v R => call_5 R k (x2 - x2 / (6 : Int32) * (6 : Int32)) 0) R R'
  rw [E, Option.bind_some, E', Option.bind_some, if_pos rfl]
  obtain ⟨x, v, w, E, E', R, R'⟩ := both2 (fix_4 z (((4 : Int32) * k) + (x2 - x2 / (4 : Int32) * (4 : Int32))) 0 0) (fun v R => call_4 R (((4 : Int32) * k) + (x2 - x2 / (4 : Int32) * (4 : Int32))) 0 0) R R'
  rw [E, Option.bind_some, E', Option.bind_some, if_pos rfl]
  exact ⟨v, w, rfl, R, R'⟩
theorem itl_invN {S E : Type} {f : S → Option (S ⊕ E)} (I : Nat → S → Prop) (Q : E → Prop) (n : Nat) (hs : ∀ i z, i < n → I i z → ∃ z', f z = some (.inl z') ∧ I (i + 1) z') (he : ∀ z, I n z → ∃ e, f z = some (.inr e) ∧ Q e) : ∀ (N i : Nat) (z0 : S), i ≤ n → I i z0 → n - i < N → ∃ e, itl f N z0 = some e ∧ Q e := by
  intro N
  induction N with
  | zero => intro i z0 _ _ h; exact absurd h (Nat.not_lt_zero _)
  | succ N ih =>
    intro i z0 hi hI h
    by_cases e : i = n
    · subst e
      obtain ⟨x, h1, h2⟩ := he z0 hI
      refine ⟨x, ?_, h2⟩
      show (f z0).bind _ = _
      rw [h1]; rfl
    · obtain ⟨z', h1, h2⟩ := hs i z0 (by omega) hI
      obtain ⟨x, h3, h4⟩ := ih (i + 1) z' (by omega) h2 (by omega)
      refine ⟨x, ?_, h4⟩
      show (f z0).bind _ = _
      rw [h1]; exact h3
theorem alike_ok {z : RS} (x2 : Int32) {v w : OBv} (R : RelO v z) (R' : RelO w z) : ∃ v' w', f_L_alike v w x2 = some (true, v', w') ∧ RelO v' z ∧ RelO w' z := by
  obtain ⟨c, m, hz⟩ := R.zc
  unfold f_L_alike
  obtain ⟨x, v, w, E, E', R, R'⟩ := both2 (fix_sim z x2.toInt64 ((1 : Int32) + (x2 - x2 / (20 : Int32) * (20 : Int32)))) (fun v R => call_sim R x2.toInt64 ((1 : Int32) + (x2 - x2 / (20 : Int32) * (20 : Int32)))) R R'
  rw [E, Option.bind_some, E', Option.bind_some, if_pos rfl, qu_pans R hz, Option.bind_some, qu_pans R' hz, Option.bind_some, if_pos rfl]
  obtain ⟨b, s, t, E, e1, -, R⟩ := call_sh R hz
  obtain ⟨b', s', t', E', e1', -, R'⟩ := call_sh R' hz
  have hb : b = b' := Option.some.inj (e1.symm.trans e1')
  rw [E, Option.bind_some, E', Option.bind_some, if_pos hb]
  have key : ∀ {v w : OBv}, RelO v z → RelO w z → ∃ v' w', f_L_alike_b54 v w x2 true = some (true, v', w') ∧ RelO v' z ∧ RelO w' z := by
    intro v w R R'
    unfold f_L_alike_b54
    obtain ⟨e, h1, h2, h3, h4⟩ := itl_invN (f := f_L_alike_B58 x2) (fun i (q : Bool × Int32 × OBv × OBv) => q.1 = true ∧ q.2.1 = i3 i ∧ RelO q.2.2.1 z ∧ RelO q.2.2.2 z) (fun (e : Bool × OBv × OBv) => e.1 = true ∧ RelO e.2.1 z ∧ RelO e.2.2 z) 20 (by
      rintro i ⟨g, k, v, w⟩ hi ⟨e1, e2, e3, e4⟩
      have e1 : g = true := e1
      have e2 : k = i3 i := e2
      subst e1
      subst e2
      have hn : ¬ (20 : Int32) ≤ i3 i := by show ¬ i3 20 ≤ i3 i; rw [i3_le (by decide) (by omega)]; omega
      obtain ⟨v', w', h1, h2, h3⟩ := alike_step x2 e3 e4 hn
      exact ⟨_, h1, rfl, i3_add i 1, h2, h3⟩) (by
      rintro ⟨g, k, v, w⟩ ⟨e1, e2, e3, e4⟩
      have e1 : g = true := e1
      have e2 : k = i3 20 := e2
      subst e1
      subst e2
      refine ⟨(true, v, w), ?_, rfl, e3, e4⟩
      unfold f_L_alike_B58
      exact if_pos (by decide : (20 : Int32) ≤ i3 20)) 21 0 (true, (0 : Int32), v, w) (by decide) ⟨rfl, rfl, R, R'⟩ (by decide)
    rw [h1, Option.bind_some, h2]
    exact ⟨_, _, rfl, h3, h4⟩
  exact key R R'
