/-! ===== weighing: the row of the reference ===== -/
theorem upd_ne {f : Fn} {k j : Nat} {x : Int32} (h : j ≠ k) : upd f k x j = f j := if_neg h
theorem upd_at {f : Fn} {k : Nat} {x : Int32} : upd f k x k = x := if_pos rfl
def wRow (r : Fn) (m : Nat) (a b o : Int32) : Fn := upd (upd (upd (upd (upd (upd r (7 + 5 * m) a) (8 + 5 * m) b) (9 + 5 * m) o) (10 + 5 * m) (r 2)) (11 + 5 * m) (r 3)) 4 (i3 m + (1 : Int32))
theorem weighOn_eq {r : Fn} {m h : Nat} {a b : Int32} (h4 : r 4 = i3 m) (hm : m < 20) (h1 : r 1 = i3 h) (hh : h < 78) (ha : bt a 12 = false) (hb : bt b 12 = false) : f_X8_weighOn r a b = some (oc a b (r 2) (r 3) h, wRow r m a b (oc a b (r 2) (r 3) h)) := by
  have n1 : (1 : Int32).toNatClampNeg = 1 := by decide
  have n2 : (2 : Int32).toNatClampNeg = 2 := by decide
  have n3 : (3 : Int32).toNatClampNeg = 3 := by decide
  have n4 : (4 : Int32).toNatClampNeg = 4 := by decide
  have u1_7 : ∀ (f : Fn) (x : Int32), upd f (7 + 5 * m) x 1 = f 1 := fun f x => upd_ne (by omega)
  have u1_8 : ∀ (f : Fn) (x : Int32), upd f (8 + 5 * m) x 1 = f 1 := fun f x => upd_ne (by omega)
  have u1_9 : ∀ (f : Fn) (x : Int32), upd f (9 + 5 * m) x 1 = f 1 := fun f x => upd_ne (by omega)
  have u1_10 : ∀ (f : Fn) (x : Int32), upd f (10 + 5 * m) x 1 = f 1 := fun f x => upd_ne (by omega)
  have u1_11 : ∀ (f : Fn) (x : Int32), upd f (11 + 5 * m) x 1 = f 1 := fun f x => upd_ne (by omega)
  have u2_7 : ∀ (f : Fn) (x : Int32), upd f (7 + 5 * m) x 2 = f 2 := fun f x => upd_ne (by omega)
  have u2_8 : ∀ (f : Fn) (x : Int32), upd f (8 + 5 * m) x 2 = f 2 := fun f x => upd_ne (by omega)
  have u2_9 : ∀ (f : Fn) (x : Int32), upd f (9 + 5 * m) x 2 = f 2 := fun f x => upd_ne (by omega)
  have u2_10 : ∀ (f : Fn) (x : Int32), upd f (10 + 5 * m) x 2 = f 2 := fun f x => upd_ne (by omega)
  have u2_11 : ∀ (f : Fn) (x : Int32), upd f (11 + 5 * m) x 2 = f 2 := fun f x => upd_ne (by omega)
  have u3_7 : ∀ (f : Fn) (x : Int32), upd f (7 + 5 * m) x 3 = f 3 := fun f x => upd_ne (by omega)
  have u3_8 : ∀ (f : Fn) (x : Int32), upd f (8 + 5 * m) x 3 = f 3 := fun f x => upd_ne (by omega)
  have u3_9 : ∀ (f : Fn) (x : Int32), upd f (9 + 5 * m) x 3 = f 3 := fun f x => upd_ne (by omega)
  have u3_10 : ∀ (f : Fn) (x : Int32), upd f (10 + 5 * m) x 3 = f 3 := fun f x => upd_ne (by omega)
  have u3_11 : ∀ (f : Fn) (x : Int32), upd f (11 + 5 * m) x 3 = f 3 := fun f x => upd_ne (by omega)
  have u4_7 : ∀ (f : Fn) (x : Int32), upd f (7 + 5 * m) x 4 = f 4 := fun f x => upd_ne (by omega)
  have u4_8 : ∀ (f : Fn) (x : Int32), upd f (8 + 5 * m) x 4 = f 4 := fun f x => upd_ne (by omega)
  have u4_9 : ∀ (f : Fn) (x : Int32), upd f (9 + 5 * m) x 4 = f 4 := fun f x => upd_ne (by omega)
  have u4_10 : ∀ (f : Fn) (x : Int32), upd f (10 + 5 * m) x 4 = f 4 := fun f x => upd_ne (by omega)
  have u4_11 : ∀ (f : Fn) (x : Int32), upd f (11 + 5 * m) x 4 = f 4 := fun f x => upd_ne (by omega)
  have e4 : ∀ (f : Fn) (x : Int32), upd f (4) x (9 + 5 * m) = f (9 + 5 * m) := fun f x => upd_ne (by omega)
  have e11 : ∀ (f : Fn) (x : Int32), upd f (11 + 5 * m) x (9 + 5 * m) = f (9 + 5 * m) := fun f x => upd_ne (by omega)
  have e10 : ∀ (f : Fn) (x : Int32), upd f (10 + 5 * m) x (9 + 5 * m) = f (9 + 5 * m) := fun f x => upd_ne (by omega)
  unfold f_X8_weighOn
  rw [n1, n2, n3, n4, h4, at_eq, Option.bind_some]
  rw [show i3 (7 + 5 * m) + (1 : Int32) = i3 (8 + 5 * m) from (i3_add _ 1).trans (by congr 1; omega), show i3 (7 + 5 * m) + (2 : Int32) = i3 (9 + 5 * m) from (i3_add _ 2).trans (by congr 1; omega), show i3 (7 + 5 * m) + (3 : Int32) = i3 (10 + 5 * m) from (i3_add _ 3).trans (by congr 1; omega), show i3 (7 + 5 * m) + (4 : Int32) = i3 (11 + 5 * m) from (i3_add _ 4).trans (by congr 1; omega)]
  rw [if_neg (i3_in (by omega) (by decide)), if_neg (i3_in (by omega) (by decide))]
  rw [show (i3 (7 + 5 * m)).toNatClampNeg = 7 + 5 * m from i3_nat (by omega), show (i3 (8 + 5 * m)).toNatClampNeg = 8 + 5 * m from i3_nat (by omega)]
  rw [u1_8, u1_7, u2_8, u2_7, u3_8, u3_7, h1, outc_eq ha hb hh, Option.bind_some]
  generalize oc a b (r 2) (r 3) h = o
  rw [if_neg (i3_in (by omega) (by decide)), if_neg (i3_in (by omega) (by decide)), if_neg (i3_in (by omega) (by decide)), if_neg (i3_in (by omega) (by decide))]
  rw [show (i3 (9 + 5 * m)).toNatClampNeg = 9 + 5 * m from i3_nat (by omega), show (i3 (10 + 5 * m)).toNatClampNeg = 10 + 5 * m from i3_nat (by omega), show (i3 (11 + 5 * m)).toNatClampNeg = 11 + 5 * m from i3_nat (by omega)]
  rw [u2_9, u2_8, u2_7, u3_10, u3_9, u3_8, u3_7, u4_11, u4_10, u4_9, u4_8, u4_7, h4, e4, e11, e10, upd_at]
  rfl
