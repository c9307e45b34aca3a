/-! ===== the pure side: small whole numbers ===== -/
abbrev i3 (n : Nat) : Int32 := Int32.ofNat n
theorem i3_le {a b : Nat} (ha : a < 2 ^ 31) (hb : b < 2 ^ 31) : (i3 a ≤ i3 b) ↔ a ≤ b := Int32.ofNat_le_iff_le ha hb
theorem i3_lt {a b : Nat} (ha : a < 2 ^ 31) (hb : b < 2 ^ 31) : (i3 a < i3 b) ↔ a < b := Int32.ofNat_lt_iff_lt ha hb
theorem i3_nat {a : Nat} (ha : a < 2 ^ 31) : (i3 a).toNatClampNeg = a := Int32.toNatClampNeg_ofNat_of_lt ha
theorem i3_eq {a b : Nat} (ha : a < 2 ^ 31) (hb : b < 2 ^ 31) : (i3 a = i3 b) ↔ a = b :=
  ⟨fun h => by have h2 := congrArg Int32.toNatClampNeg h; rwa [i3_nat ha, i3_nat hb] at h2, fun h => h ▸ rfl⟩
theorem i3_nn {a : Nat} (ha : a < 2 ^ 31) : ¬ i3 a < 0 := fun h => absurd ((i3_lt ha (by decide : 0 < 2 ^ 31)).mp h) (Nat.not_lt_zero a)
theorem i3_add (a b : Nat) : i3 a + i3 b = i3 (a + b) := (Int32.ofNat_add a b).symm
theorem i3_mul (a b : Nat) : i3 a * i3 b = i3 (a * b) := (Int32.ofNat_mul a b).symm
theorem i3_sub {a b : Nat} (h : b ≤ a) : i3 a - i3 b = i3 (a - b) := (Int32.ofNat_sub a b h).symm
theorem i3_int {a : Nat} (ha : a < 2 ^ 31) : (i3 a).toInt = a := Int32.toInt_ofNat_of_lt ha
theorem i3_div {a b : Nat} (ha : a < 2 ^ 31) (hb : b < 2 ^ 31) : i3 a / i3 b = i3 (a / b) := by
  apply Int32.toInt.inj
  have hq : a / b < 2 ^ 31 := Nat.lt_of_le_of_lt (Nat.div_le_self a b) ha
  rw [Int32.toInt_div, i3_int ha, i3_int hb, i3_int hq]
  have key : ∀ q : Nat, q < 2 ^ 31 → ((q : Int)).bmod (2 ^ 32) = q := by
    intro q h
    rw [Int.bmod_eq_of_le (by omega) (by omega)]
  exact key _ hq
theorem i3_mod {a b : Nat} (ha : a < 2 ^ 31) (hb : b < 2 ^ 31) : i3 a - i3 a / i3 b * i3 b = i3 (a % b) := by
  rw [i3_div ha hb, i3_mul, i3_sub (Nat.div_mul_le_self a b)]
  congr 1
  have := Nat.div_add_mod a b
  rw [Nat.mul_comm] at this
  omega
theorem i3_in {a n : Nat} (ha : a < n) (hn : n < 2 ^ 31) : ¬ (i3 a < 0 ∨ n ≤ (i3 a).toNatClampNeg) := by
  rw [i3_nat (Nat.lt_trans ha hn)]
  intro h
  rcases h with h | h
  · exact i3_nn (Nat.lt_trans ha hn) h
  · omega
theorem i3_of {x : Int32} (h : 0 ≤ x) : ∃ n : Nat, n < 2 ^ 31 ∧ x = i3 n := by
  refine ⟨x.toNatClampNeg, Int32.toNatClampNeg_lt x, ?_⟩
  apply Int32.toInt.inj
  rw [i3_int (Int32.toNatClampNeg_lt x)]
  have h2 : 0 ≤ x.toInt := Int32.le_iff_toInt_le.mp h
  show x.toInt = ((x.toInt.toNat : Nat) : Int)
  omega
/-! loops -/
theorem itl_from {S E : Type} {f : S → Option (S ⊕ E)} (st : Nat → S) (n : Nat) {e : E} (hs : ∀ i, i < n → f (st i) = some (.inl (st (i + 1)))) (he : f (st n) = some (.inr e)) : ∀ (N k : Nat), k ≤ n → n - k < N → itl f N (st k) = some e := by
  intro N
  induction N with
  | zero => intro k _ h; exact absurd h (Nat.not_lt_zero _)
  | succ N ih =>
    intro k hk h
    show (f (st k)).bind _ = _
    by_cases hkn : k = n
    · subst hkn
      rw [he]
      rfl
    · rw [hs k (by omega)]
      exact ih (k + 1) (by omega) (by omega)
theorem itl_for {S E : Type} {f : S → Option (S ⊕ E)} (st : Nat → S) (n : Nat) {e : E} (hn : n < FU) (hs : ∀ i, i < n → f (st i) = some (.inl (st (i + 1)))) (he : f (st n) = some (.inr e)) : itl f FU (st 0) = some e :=
  itl_from st n hs he FU 0 (Nat.zero_le _) (by omega)
/-! bits -/
def bt (x : Int32) (b : Nat) : Bool := x.toBitVec.getLsbD b
theorem bt_ge {x : Int32} {b : Nat} (h : 32 ≤ b) : bt x b = false := BitVec.getLsbD_of_ge _ _ h
theorem bt_ext {x y : Int32} (h : ∀ j, j < 32 → bt x j = bt y j) : x = y := by
  apply Int32.toBitVec_inj.1
  exact BitVec.eq_of_getLsbD_eq (fun i hi => h i hi)
theorem bt_and (x y : Int32) (b : Nat) : bt (x &&& y) b = (bt x b && bt y b) := by simp [bt]
theorem bt_or (x y : Int32) (b : Nat) : bt (x ||| y) b = (bt x b || bt y b) := by simp [bt]
theorem bt_xor (x y : Int32) (b : Nat) : bt (x ^^^ y) b = (bt x b ^^ bt y b) := by simp [bt]
theorem bt_zero (b : Nat) : bt 0 b = false := by simp [bt]
theorem bt_m1 {b : Nat} (h : b < 32) : bt (-1) b = true := by
  have : ∀ b : Fin 32, bt (-1) b.val = true := by decide
  exact this ⟨b, h⟩
theorem bt_not {x : Int32} {b : Nat} (h : b < 32) : bt (x ^^^ (-1 : Int32)) b = !bt x b := by
  rw [bt_xor, bt_m1 h]
  cases bt x b <;> rfl
theorem bt_one (b : Nat) : bt 1 b = decide (b = 0) := by
  by_cases h : b < 32
  · have : ∀ b : Fin 32, bt 1 b.val = decide (b.val = 0) := by decide
    exact this ⟨b, h⟩
  · rw [bt_ge (by omega)]
    exact (decide_eq_false (by omega)).symm
theorem bt_shl1 {k : Nat} (hk : k < 13) (b : Nat) : bt ((1 : Int32) <<< (i3 k &&& 31)) b = decide (b = k) := by
  by_cases h : b < 32
  · have : ∀ k : Fin 13, ∀ b : Fin 32, bt ((1 : Int32) <<< (i3 k.val &&& 31)) b.val = decide (b.val = k.val) := by decide +kernel
    exact this ⟨k, hk⟩ ⟨b, h⟩
  · rw [bt_ge (by omega)]
    exact (decide_eq_false (by omega)).symm
theorem and1_iff (y : Int32) : (y &&& (1 : Int32)) = (1 : Int32) ↔ bt y 0 = true := by
  constructor
  · intro h
    have h2 := congrArg (fun x => bt x 0) h
    simp only [bt_and, bt_one] at h2
    simpa using h2
  · intro h
    refine bt_ext (fun j _ => ?_)
    rw [bt_and, bt_one]
    by_cases hj : j = 0
    · subst hj; simp [h]
    · simp [hj]
theorem and1_val (y : Int32) : (y &&& (1 : Int32)) = i3 (bt y 0).toNat := by
  refine bt_ext (fun j _ => ?_)
  rw [bt_and, bt_one]
  cases h : bt y 0
  · by_cases hj : j = 0
    · subst hj; rw [h]; rfl
    · simp only [hj, decide_false, Bool.and_false]; exact (bt_zero j).symm
  · by_cases hj : j = 0
    · subst hj; rw [h]; rfl
    · simp only [hj, decide_false, Bool.and_false]; exact ((bt_one j).trans (decide_eq_false hj)).symm
theorem bt_shr {x : Int32} {k : Nat} (hk : k < 13) : bt (x >>> (i3 k &&& 31)) 0 = bt x k := by
  have h : ∀ k : Fin 13, ((i3 k.val &&& 31).toBitVec.smod 32).toNat = k.val := by decide +kernel
  have h2 := h ⟨k, hk⟩
  unfold bt
  rw [Int32.toBitVec_shiftRight]
  rw [BitVec.sshiftRight_eq', BitVec.getLsbD_sshiftRight]
  have h3 : ((i3 k &&& 31).toBitVec.smod 32).toNat = k := h2
  simp only [h3]
  simp
  omega
theorem shr1_iff {x : Int32} {k : Nat} (hk : k < 13) : ((x >>> (i3 k &&& 31)) &&& (1 : Int32)) = (1 : Int32) ↔ bt x k = true := by
  rw [and1_iff, bt_shr hk]
theorem shr1_val {x : Int32} {k : Nat} (hk : k < 13) : ((x >>> (i3 k &&& 31)) &&& (1 : Int32)) = i3 (bt x k).toNat := by
  rw [and1_val, bt_shr hk]
theorem and_zero_iff (x y : Int32) : (x &&& y) = 0 ↔ ∀ j, ¬ (bt x j = true ∧ bt y j = true) := by
  constructor
  · intro h j hj
    have h2 := congrArg (fun x => bt x j) h
    simp only [bt_and, bt_zero, hj.1, hj.2] at h2
    exact nomatch h2
  · intro h
    refine bt_ext (fun j _ => ?_)
    rw [bt_and, bt_zero]
    cases h1 : bt x j <;> cases h2 : bt y j <;> simp_all
theorem and_shl_iff {x : Int32} {k : Nat} (hk : k < 13) : (x &&& ((1 : Int32) <<< (i3 k &&& 31))) = 0 ↔ bt x k = false := by
  rw [and_zero_iff]
  constructor
  · intro h
    have h2 := h k
    rw [bt_shl1 hk] at h2
    cases hb : bt x k
    · rfl
    · exact absurd ⟨hb, by simp⟩ h2
  · intro h j hj
    rw [bt_shl1 hk] at hj
    have : j = k := by simpa using hj.2
    subst this
    rw [h] at hj
    exact nomatch hj.1
/-! sums -/
def sm (f : Nat → Nat) : Nat → Nat
  | 0 => 0
  | n + 1 => sm f n + f n
theorem sm_cong {f g : Nat → Nat} : ∀ {n : Nat}, (∀ i, i < n → f i = g i) → sm f n = sm g n := by
  intro n
  induction n with
  | zero => intro _; rfl
  | succ n ih => intro h; show sm f n + f n = sm g n + g n; rw [ih (fun i hi => h i (by omega)), h n (by omega)]
theorem sm_le {f : Nat → Nat} {c : Nat} : ∀ {n : Nat}, (∀ i, i < n → f i ≤ c) → sm f n ≤ c * n := by
  intro n
  induction n with
  | zero => intro _; exact Nat.le_refl _
  | succ n ih => intro h; show sm f n + f n ≤ _; rw [Nat.mul_succ]; exact Nat.add_le_add (ih (fun i hi => h i (by omega))) (h n (by omega))
/-- how many bits are set -/
def pc (x : Int32) : Nat := sm (fun b => (bt x b).toNat) 13
def Sm (x : Int32) : Prop := ∀ j, 13 ≤ j → bt x j = false
theorem Sm.of {x : Int32} (h : Sm x) : ∃ n, n < 8192 ∧ x = i3 n := by
  have h1 : x.toBitVec.toNat < 2 ^ 13 := Nat.lt_pow_two_of_testBit _ (fun i hi => h i hi)
  refine ⟨x.toBitVec.toNat, h1, ?_⟩
  apply Int32.toBitVec_inj.1
  apply BitVec.eq_of_toNat_eq
  show _ = (BitVec.ofNat 32 _).toNat
  rw [BitVec.toNat_ofNat, Nat.mod_eq_of_lt (by omega)]
theorem bitc0 : ∀ i, i < 64 → ∀ j, j < 128 → f_J6_bitCount_0f7a4 (i3 (128 * i + j)) = some (i3 (pc (i3 (128 * i + j)))) := by decide +kernel
theorem bitc (n : Nat) (h : n < 8192) : f_J6_bitCount_0f7a4 (i3 n) = some (i3 (pc (i3 n))) := by
  have h1 := bitc0 (n / 128) (by omega) (n % 128) (Nat.mod_lt _ (by decide))
  rw [Nat.div_add_mod] at h1
  exact h1
theorem bitCount_eq {x : Int32} (h : Sm x) : f_J6_bitCount_0f7a4 x = some (i3 (pc x)) := by
  obtain ⟨n, hn, rfl⟩ := h.of
  exact bitc n hn
