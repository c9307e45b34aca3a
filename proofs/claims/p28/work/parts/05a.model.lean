/-! ===== functions of the plain model (definitions alone) ===== -/
def f_X8_clear_B2 (z : Int32 × Fn) : Option ((Int32 × Fn) ⊕ ((Fn))) :=
  if (107 : Int32) ≤ z.1 then some (.inr ((z.2))) else if z.1 < 0 ∨ 107 ≤ z.1.toNatClampNeg then none else some (.inl ((z.1 + (1 : Int32)), (upd z.2 z.1.toNatClampNeg (0 : Int32))))
def f_X8_clear (w0 : Fn) : Option (Fn) :=
  (itl (f_X8_clear_B2) FU ((0 : Int32), w0)).bind (fun q832 => some (upd (upd (upd q832 (0 : Int32).toNatClampNeg (9 : Int32)) (2 : Int32).toNatClampNeg (10 : Int32)) (3 : Int32).toNatClampNeg (10 : Int32)))
def f_X8_thrown (v0 : MOv) : Option (Int32) :=
  some v0.1
def f_X8_refused (v0 : MOv) (p1 : Int32) : Option (Bool × MOv) :=
  if p1 ≤ 0 then some (false, (p1, v0.2.1, v0.2.2.1, v0.2.2.2.1, v0.2.2.2.2.1, v0.2.2.2.2.2)) else some (true, (p1, v0.2.1, v0.2.2.1, v0.2.2.2.1, v0.2.2.2.2.1, v0.2.2.2.2.2))
def f_X8_in (p0 : Int64) (p1 : Int64) (p2 : Int64) : Option (Bool) :=
  if (lg_cmp p0 p1) < 0 then some false else if 0 < (lg_cmp p0 p2) then some false else some true
def f_X8_copyState_B3 (n0 : Nat) (n1 : Nat) (w0 : Fn) (x1 : Int32) (x3 : Int32) (z : Int32 × Fn) : Option ((Int32 × Fn) ⊕ ((Fn))) :=
  if (107 : Int32) ≤ z.1 then some (.inr ((z.2))) else if (x1 + z.1) < 0 ∨ n0 ≤ (x1 + z.1).toNatClampNeg then none else if (x3 + z.1) < 0 ∨ n1 ≤ (x3 + z.1).toNatClampNeg then none else some (.inl ((z.1 + (1 : Int32)), (upd z.2 (x3 + z.1).toNatClampNeg (w0 (x1 + z.1).toNatClampNeg))))
def f_X8_copyState (n0 : Nat) (n1 : Nat) (w0 : Fn) (w1 : Fn) (p1 : Int32) (p3 : Int32) : Option (Fn) :=
  (itl (f_X8_copyState_B3 n0 n1 w0 p1 p3) FU ((0 : Int32), w1)).bind (fun q843 => some q843)
def f_X8_allOf (p0 : Int32) : Option (Int32) :=
  some ((3 : Int32) * (((2 : Int32) * p0) + (1 : Int32)))
def f_X8_isCoin (w0 : Fn) (p1 : Int32) : Option (Bool) :=
  (f_X8_in (p1.toInt64) (0 : Int64) (((w0 (0 : Int32).toNatClampNeg) - (1 : Int32)).toInt64)).bind (fun q846 => some q846)
def f_X8_isCoins (p0 : Int32) : Option (Bool) :=
  (f_X8_in (p0.toInt64) (3 : Int64) (12 : Int64)).bind (fun q849 => some q849)
def f_X8_isArms (p0 : Int32) (p1 : Int32) : Option (Bool) :=
  (f_X8_in (p0.toInt64) (1 : Int64) (20 : Int64)).bind (fun q854 => if (b2i q854) = 0 then some false else (f_X8_in (p1.toInt64) (1 : Int64) (20 : Int64)).bind (fun q855 => if (b2i q855) = 0 then some false else some true))
def f_X8_isSet (w0 : Fn) (p1 : Int32) : Option (Bool) :=
  (f_X8_in (p1.toInt64) (0 : Int64) ((((1 : Int32) <<< ((w0 (0 : Int32).toNatClampNeg) &&& 31)) - (1 : Int32)).toInt64)).bind (fun q860 => some q860)
def f_X8_isWeighing (w0 : Fn) (p1 : Int32) (p2 : Int32) : Option (Bool) :=
  (f_X8_isSet w0 p1).bind (fun q865 => if (b2i q865) = 0 then some false else (f_X8_isSet w0 p2).bind (fun q866 => if (b2i q866) = 0 then some false else if (p1 &&& p2) = 0 then if (p1 ||| p2) ≤ 0 then some false else some true else some false))
def f_X8_bits_B4 (x0 : Int32) (z : Int32 × Int32) : Option ((Int32 × Int32) ⊕ ((Int32))) :=
  if (12 : Int32) ≤ z.2 then some (.inr ((z.1))) else some (.inl ((z.1 + ((x0 >>> (z.2 &&& 31)) &&& (1 : Int32))), (z.2 + (1 : Int32))))
def f_X8_bits (p0 : Int32) : Option (Int32) :=
  (itl (f_X8_bits_B4 p0) FU ((0 : Int32), (0 : Int32))).bind (fun q872 => some q872)
def f_X8_weight_b47 (y0 : Int32) (y1 : Int32) : Option (Int32) :=
  some (y1 + y0)
def f_X8_weight_b24 (x0 : Int32) (x1 : Int32) (y0 : Bool) : Option (Int32) :=
  (f_X8_bits x0).bind (fun q875 => if (b2i y0) = 0 then f_X8_weight_b47 (0 : Int32) ((10 : Int32) * q875) else f_X8_weight_b47 (((2 : Int32) * (x1 - x1 / (2 : Int32) * (2 : Int32))) - (1 : Int32)) ((10 : Int32) * q875))
def f_X8_weight_b23 (x0 : Int32) (x1 : Int32) : Option (Int32) :=
  f_X8_weight_b24 x0 x1 false
def f_X8_weight (p0 : Int32) (p1 : Int32) : Option (Int32) :=
  if (12 : Int32) ≤ (p1 / (2 : Int32)) then f_X8_weight_b23 p0 p1 else if ((p0 >>> ((p1 / (2 : Int32)) &&& 31)) &&& (1 : Int32)) = (1 : Int32) then f_X8_weight_b24 p0 p1 true else f_X8_weight_b23 p0 p1
def f_X8_outcome_b48 (x5 : Int32) (y0 : Bool) (y1 : Int32) (y2 : Int32) : Option (Int32) :=
  if x5 ≤ (y2 * (y1 + (b2i y0))) then if (y2 * (y1 + (b2i y0))) ≤ x5 then some (0 : Int32) else some (2 : Int32) else some (1 : Int32)
def f_X8_outcome_b22 (x1 : Int32) (x3 : Int32) (x4 : Int32) (y0 : Bool) (y1 : Int32) (y2 : Int32) : Option (Int32) :=
  (f_X8_weight x1 (x4 / (3 : Int32))).bind (fun q884 => if (x4 - x4 / (3 : Int32) * (3 : Int32)) = (2 : Int32) then f_X8_outcome_b48 (y2 * (y1 + (b2i y0))) true q884 x3 else f_X8_outcome_b48 (y2 * (y1 + (b2i y0))) false q884 x3)
def f_X8_outcome (p0 : Int32) (p1 : Int32) (p2 : Int32) (p3 : Int32) (p4 : Int32) : Option (Int32) :=
  (f_X8_weight p0 (p4 / (3 : Int32))).bind (fun q883 => if (p4 - p4 / (3 : Int32) * (3 : Int32)) = (1 : Int32) then f_X8_outcome_b22 p1 p3 p4 true q883 p2 else f_X8_outcome_b22 p1 p3 p4 false q883 p2)
def f_X8_at (p0 : Int32) : Option (Int32) :=
  some ((7 : Int32) + ((5 : Int32) * p0))
def f_X8_fits_B2 (w0 : Fn) (x1 : Int32) (x2 : Int32) (z : Int32) : Option ((Int32) ⊕ ((Unit) ⊕ (Unit))) :=
  if x2 ≤ z then some (.inr (.inr ())) else (f_X8_at z).bind (fun q903 => if q903 < 0 ∨ 107 ≤ q903.toNatClampNeg then none else if (q903 + (1 : Int32)) < 0 ∨ 107 ≤ (q903 + (1 : Int32)).toNatClampNeg then none else if (q903 + (3 : Int32)) < 0 ∨ 107 ≤ (q903 + (3 : Int32)).toNatClampNeg then none else if (q903 + (4 : Int32)) < 0 ∨ 107 ≤ (q903 + (4 : Int32)).toNatClampNeg then none else (f_X8_outcome (w0 q903.toNatClampNeg) (w0 (q903 + (1 : Int32)).toNatClampNeg) (w0 (q903 + (3 : Int32)).toNatClampNeg) (w0 (q903 + (4 : Int32)).toNatClampNeg) x1).bind (fun q908 => if (q903 + (2 : Int32)) < 0 ∨ 107 ≤ (q903 + (2 : Int32)).toNatClampNeg then none else if q908 = (w0 (q903 + (2 : Int32)).toNatClampNeg) then some (.inl ((z + (1 : Int32)))) else some (.inr (.inl ()))))
def f_X8_fits (w0 : Fn) (p1 : Int32) (p2 : Int32) : Option (Bool) :=
  (itl (f_X8_fits_B2 w0 p1 p2) FU (0 : Int32)).bind (Sum.elim (fun q912e => some false) (fun q912e => some true))
def f_X8_many_B4_b29 (w0 : Fn) (x1 : Int32) (x3 : Int32) (y0 : Bool) (y1 : Int32) : Option ((Int32 × Int32) ⊕ ((Int32))) :=
  some (.inl ((y1 + (b2i y0)), (x3 + (1 : Int32))))
def f_X8_many_B4 (w0 : Fn) (x1 : Int32) (z : Int32 × Int32) : Option ((Int32 × Int32) ⊕ ((Int32))) :=
  (f_X8_allOf (w0 (0 : Int32).toNatClampNeg)).bind (fun q917 => if q917 ≤ z.2 then some (.inr ((z.1))) else (f_X8_fits w0 z.2 x1).bind (fun q918 => if (b2i q918) = 0 then f_X8_many_B4_b29 w0 x1 z.2 false z.1 else f_X8_many_B4_b29 w0 x1 z.2 true z.1))
def f_X8_many (w0 : Fn) (p1 : Int32) : Option (Int32) :=
  (itl (f_X8_many_B4 w0 p1) FU ((0 : Int32), (0 : Int32))).bind (fun q921 => some q921)
def f_X8_leftOf (w0 : Fn) : Option (Int32) :=
  (f_X8_many w0 (w0 (4 : Int32).toNatClampNeg)).bind (fun q924 => some q924)
def f_X8_gather_B7_b48 (v0 : MOv) (v7 : Fn) (w0 : Fn) (x2 : Int32) : Option ((Int32 × MOv × Fn) ⊕ ((MOv × Fn))) :=
  some (.inl ((x2 + (1 : Int32)), v0, v7))
def f_X8_gather_B7 (w0 : Fn) (z : Int32 × MOv × Fn) : Option ((Int32 × MOv × Fn) ⊕ ((MOv × Fn))) :=
  (f_X8_allOf (w0 (0 : Int32).toNatClampNeg)).bind (fun q929 => if q929 ≤ z.1 then some (.inr ((z.2.1, z.2.2))) else (f_X8_fits w0 z.1 (w0 (4 : Int32).toNatClampNeg)).bind (fun q930 => if (b2i q930) = 0 then f_X8_gather_B7_b48 z.2.1 z.2.2 w0 z.1 else if z.2.1.2.2.2.1 < 0 ∨ 75 ≤ z.2.1.2.2.2.1.toNatClampNeg then none else f_X8_gather_B7_b48 (z.2.1.1, z.2.1.2.1, z.2.1.2.2.1, (z.2.1.2.2.2.1 + (1 : Int32)), z.2.1.2.2.2.2.1, z.2.1.2.2.2.2.2) (upd z.2.2 z.2.1.2.2.2.1.toNatClampNeg z.1) w0 z.1))
def f_X8_gather (v0 : MOv) (v7 : Fn) (w0 : Fn) : Option (MOv × Fn) :=
  (itl (f_X8_gather_B7 w0) FU ((0 : Int32), (v0.1, v0.2.1, v0.2.2.1, (0 : Int32), v0.2.2.2.2.1, v0.2.2.2.2.2), v7)).bind (fun q934 => some (q934.1, q934.2))
def f_X8_worst_B24 (v0 : MOv) (v7 : Fn) (x1 : Int32) (x2 : Int32) (x3 : Int32) (x4 : Int32) (z : Int32 × Fn) : Option ((Int32 × Fn) ⊕ ((Fn))) :=
  if v0.2.2.2.1 ≤ z.1 then some (.inr ((z.2))) else if z.1 < 0 ∨ 75 ≤ z.1.toNatClampNeg then none else (f_X8_outcome x1 x2 x3 x4 (v7 z.1.toNatClampNeg)).bind (fun q942 => if q942 < 0 ∨ 3 ≤ q942.toNatClampNeg then none else if q942 < 0 ∨ 3 ≤ q942.toNatClampNeg then none else some (.inl ((z.1 + (1 : Int32)), (upd z.2 q942.toNatClampNeg ((z.2 q942.toNatClampNeg) + (1 : Int32))))))
def f_X8_worst_b93 (v0 : MOv) (v7 : Fn) (v8 : Fn) (y0 : Int32) : Option (Int32 × Fn) :=
  if y0 ≤ (v8 (2 : Int32).toNatClampNeg) then some ((v8 (2 : Int32).toNatClampNeg), v8) else some (y0, v8)
def f_X8_worst (v0 : MOv) (v7 : Fn) (v8 : Fn) (p1 : Int32) (p2 : Int32) (p3 : Int32) (p4 : Int32) : Option (Int32 × Fn) :=
  (itl (f_X8_worst_B24 v0 v7 p1 p2 p3 p4) FU ((0 : Int32), (upd (upd (upd v8 (0 : Int32).toNatClampNeg (0 : Int32)) (1 : Int32).toNatClampNeg (0 : Int32)) (2 : Int32).toNatClampNeg (0 : Int32)))).bind (fun q946 => if (q946 (0 : Int32).toNatClampNeg) ≤ (q946 (1 : Int32).toNatClampNeg) then f_X8_worst_b93 v0 v7 q946 (q946 (1 : Int32).toNatClampNeg) else f_X8_worst_b93 v0 v7 q946 (q946 (0 : Int32).toNatClampNeg))
def f_X8_coinOf_B4_b53 (w0 : Fn) (x1 : Int32) (x2 : Int32) (x3 : Int32) : Option ((Int32 × Int32) ⊕ ((Int32))) :=
  some (.inl (x2, (x3 + (1 : Int32))))
def f_X8_coinOf_B4_b51 (w0 : Fn) (x1 : Int32) (x3 : Int32) (y0 : Int32) (y1 : Int32) : Option ((Int32 × Int32) ⊕ ((Int32))) :=
  f_X8_coinOf_B4_b53 w0 x1 (y1 ||| y0) x3
def f_X8_coinOf_B4 (w0 : Fn) (x1 : Int32) (z : Int32 × Int32) : Option ((Int32 × Int32) ⊕ ((Int32))) :=
  (f_X8_allOf (w0 (0 : Int32).toNatClampNeg)).bind (fun q953 => if q953 ≤ z.2 then some (.inr ((z.1))) else (f_X8_fits w0 z.2 (w0 (4 : Int32).toNatClampNeg)).bind (fun q954 => if (b2i q954) = 0 then f_X8_coinOf_B4_b53 w0 x1 z.1 z.2 else if (z.2 / (6 : Int32)) = x1 then if ((z.2 / (3 : Int32)) - (z.2 / (3 : Int32)) / (2 : Int32) * (2 : Int32)) = 0 then f_X8_coinOf_B4_b51 w0 x1 z.2 (1 : Int32) z.1 else f_X8_coinOf_B4_b51 w0 x1 z.2 (2 : Int32) z.1 else f_X8_coinOf_B4_b51 w0 x1 z.2 (4 : Int32) z.1))
def f_X8_coinOf (w0 : Fn) (p1 : Int32) : Option (Int32) :=
  (itl (f_X8_coinOf_B4 w0 p1) FU ((0 : Int32), (0 : Int32))).bind (fun q959 => some q959)
def f_X8_pansOf_B4_b35 (w0 : Fn) (x2 : Int32) (y0 : Int32) (y1 : Int32) : Option ((Int32 × Int32) ⊕ ((Int32))) :=
  some (.inl ((y1 ||| y0), (x2 + (1 : Int32))))
def f_X8_pansOf_B4 (w0 : Fn) (z : Int32 × Int32) : Option ((Int32 × Int32) ⊕ ((Int32))) :=
  (f_X8_allOf (w0 (0 : Int32).toNatClampNeg)).bind (fun q964 => if q964 ≤ z.2 then some (.inr ((z.1))) else (f_X8_fits w0 z.2 (w0 (4 : Int32).toNatClampNeg)).bind (fun q965 => if (b2i q965) = 0 then f_X8_pansOf_B4_b35 w0 z.2 (0 : Int32) z.1 else f_X8_pansOf_B4_b35 w0 z.2 ((1 : Int32) <<< ((z.2 - z.2 / (3 : Int32) * (3 : Int32)) &&& 31)) z.1))
def f_X8_pansOf (w0 : Fn) : Option (Int32) :=
  (itl (f_X8_pansOf_B4 w0) FU ((0 : Int32), (0 : Int32))).bind (fun q968 => some q968)
def f_X8_needsOf_B9 (w0 : Fn) (x3 : Int32) (z : Int32 × Int32) : Option ((Int32 × Int32) ⊕ ((Int32))) :=
  if x3 ≤ z.2 then some (.inr ((z.1))) else some (.inl ((z.1 + (1 : Int32)), (z.2 * (3 : Int32))))
def f_X8_needsOf (w0 : Fn) : Option (Int32) :=
  (f_X8_leftOf w0).bind (fun q971 => (itl (f_X8_needsOf_B9 w0 q971) FU ((0 : Int32), (1 : Int32))).bind (fun q973 => some q973))
def f_X8_hideOn (w0 : Fn) (p1 : Int32) (p2 : Int32) : Option (Int32 × Fn) :=
  (f_X8_allOf p1).bind (fun q976 => some (q976, (upd (upd (upd w0 (0 : Int32).toNatClampNeg p1) (1 : Int32).toNatClampNeg p2) (4 : Int32).toNatClampNeg (0 : Int32))))
def f_X8_armsOn (w0 : Fn) (p1 : Int32) (p2 : Int32) : Option (Int32 × Fn) :=
  if p1 = p2 then some ((1 : Int32), (upd (upd w0 (2 : Int32).toNatClampNeg p1) (3 : Int32).toNatClampNeg p2)) else some ((0 : Int32), (upd (upd w0 (2 : Int32).toNatClampNeg p1) (3 : Int32).toNatClampNeg p2))
def f_X8_canWeigh (w0 : Fn) (p1 : Int32) (p2 : Int32) : Option (Bool) :=
  (f_X8_isWeighing w0 p1 p2).bind (fun q980 => if (b2i q980) = 0 then some false else if (20 : Int32) ≤ (w0 (4 : Int32).toNatClampNeg) then some false else some true)
def f_X8_weighOn (w0 : Fn) (p1 : Int32) (p2 : Int32) : Option (Int32 × Fn) :=
  (f_X8_at (w0 (4 : Int32).toNatClampNeg)).bind (fun q999 => if q999 < 0 ∨ 107 ≤ q999.toNatClampNeg then none else if (q999 + (1 : Int32)) < 0 ∨ 107 ≤ (q999 + (1 : Int32)).toNatClampNeg then none else (f_X8_outcome p1 p2 ((upd (upd w0 q999.toNatClampNeg p1) (q999 + (1 : Int32)).toNatClampNeg p2) (2 : Int32).toNatClampNeg) ((upd (upd w0 q999.toNatClampNeg p1) (q999 + (1 : Int32)).toNatClampNeg p2) (3 : Int32).toNatClampNeg) ((upd (upd w0 q999.toNatClampNeg p1) (q999 + (1 : Int32)).toNatClampNeg p2) (1 : Int32).toNatClampNeg)).bind (fun q1002 => if (q999 + (2 : Int32)) < 0 ∨ 107 ≤ (q999 + (2 : Int32)).toNatClampNeg then none else if (q999 + (3 : Int32)) < 0 ∨ 107 ≤ (q999 + (3 : Int32)).toNatClampNeg then none else if (q999 + (4 : Int32)) < 0 ∨ 107 ≤ (q999 + (4 : Int32)).toNatClampNeg then none else if (q999 + (2 : Int32)) < 0 ∨ 107 ≤ (q999 + (2 : Int32)).toNatClampNeg then none else some (((upd (upd (upd (upd (upd (upd w0 q999.toNatClampNeg p1) (q999 + (1 : Int32)).toNatClampNeg p2) (q999 + (2 : Int32)).toNatClampNeg q1002) (q999 + (3 : Int32)).toNatClampNeg ((upd (upd (upd w0 q999.toNatClampNeg p1) (q999 + (1 : Int32)).toNatClampNeg p2) (q999 + (2 : Int32)).toNatClampNeg q1002) (2 : Int32).toNatClampNeg)) (q999 + (4 : Int32)).toNatClampNeg ((upd (upd (upd (upd w0 q999.toNatClampNeg p1) (q999 + (1 : Int32)).toNatClampNeg p2) (q999 + (2 : Int32)).toNatClampNeg q1002) (q999 + (3 : Int32)).toNatClampNeg ((upd (upd (upd w0 q999.toNatClampNeg p1) (q999 + (1 : Int32)).toNatClampNeg p2) (q999 + (2 : Int32)).toNatClampNeg q1002) (2 : Int32).toNatClampNeg)) (3 : Int32).toNatClampNeg)) (4 : Int32).toNatClampNeg (((upd (upd (upd (upd (upd w0 q999.toNatClampNeg p1) (q999 + (1 : Int32)).toNatClampNeg p2) (q999 + (2 : Int32)).toNatClampNeg q1002) (q999 + (3 : Int32)).toNatClampNeg ((upd (upd (upd w0 q999.toNatClampNeg p1) (q999 + (1 : Int32)).toNatClampNeg p2) (q999 + (2 : Int32)).toNatClampNeg q1002) (2 : Int32).toNatClampNeg)) (q999 + (4 : Int32)).toNatClampNeg ((upd (upd (upd (upd w0 q999.toNatClampNeg p1) (q999 + (1 : Int32)).toNatClampNeg p2) (q999 + (2 : Int32)).toNatClampNeg q1002) (q999 + (3 : Int32)).toNatClampNeg ((upd (upd (upd w0 q999.toNatClampNeg p1) (q999 + (1 : Int32)).toNatClampNeg p2) (q999 + (2 : Int32)).toNatClampNeg q1002) (2 : Int32).toNatClampNeg)) (3 : Int32).toNatClampNeg)) (4 : Int32).toNatClampNeg) + (1 : Int32))) (q999 + (2 : Int32)).toNatClampNeg), (upd (upd (upd (upd (upd (upd w0 q999.toNatClampNeg p1) (q999 + (1 : Int32)).toNatClampNeg p2) (q999 + (2 : Int32)).toNatClampNeg q1002) (q999 + (3 : Int32)).toNatClampNeg ((upd (upd (upd w0 q999.toNatClampNeg p1) (q999 + (1 : Int32)).toNatClampNeg p2) (q999 + (2 : Int32)).toNatClampNeg q1002) (2 : Int32).toNatClampNeg)) (q999 + (4 : Int32)).toNatClampNeg ((upd (upd (upd (upd w0 q999.toNatClampNeg p1) (q999 + (1 : Int32)).toNatClampNeg p2) (q999 + (2 : Int32)).toNatClampNeg q1002) (q999 + (3 : Int32)).toNatClampNeg ((upd (upd (upd w0 q999.toNatClampNeg p1) (q999 + (1 : Int32)).toNatClampNeg p2) (q999 + (2 : Int32)).toNatClampNeg q1002) (2 : Int32).toNatClampNeg)) (3 : Int32).toNatClampNeg)) (4 : Int32).toNatClampNeg (((upd (upd (upd (upd (upd w0 q999.toNatClampNeg p1) (q999 + (1 : Int32)).toNatClampNeg p2) (q999 + (2 : Int32)).toNatClampNeg q1002) (q999 + (3 : Int32)).toNatClampNeg ((upd (upd (upd w0 q999.toNatClampNeg p1) (q999 + (1 : Int32)).toNatClampNeg p2) (q999 + (2 : Int32)).toNatClampNeg q1002) (2 : Int32).toNatClampNeg)) (q999 + (4 : Int32)).toNatClampNeg ((upd (upd (upd (upd w0 q999.toNatClampNeg p1) (q999 + (1 : Int32)).toNatClampNeg p2) (q999 + (2 : Int32)).toNatClampNeg q1002) (q999 + (3 : Int32)).toNatClampNeg ((upd (upd (upd w0 q999.toNatClampNeg p1) (q999 + (1 : Int32)).toNatClampNeg p2) (q999 + (2 : Int32)).toNatClampNeg q1002) (2 : Int32).toNatClampNeg)) (3 : Int32).toNatClampNeg)) (4 : Int32).toNatClampNeg) + (1 : Int32))))))
def f_X8_told_b11 (w0 : Fn) (x1 : Bool) (y0 : Int32) : Option (Int32 × Fn) :=
  if y0 < 0 ∨ 107 ≤ y0.toNatClampNeg then none else if y0 < 0 ∨ 107 ≤ y0.toNatClampNeg then none else if (b2i x1) = 0 then some ((0 : Int32), (upd w0 y0.toNatClampNeg ((w0 y0.toNatClampNeg) + (1 : Int32)))) else some ((1 : Int32), (upd w0 y0.toNatClampNeg ((w0 y0.toNatClampNeg) + (1 : Int32))))
def f_X8_told (w0 : Fn) (p1 : Bool) : Option (Int32 × Fn) :=
  if (b2i p1) = 0 then f_X8_told_b11 w0 p1 (6 : Int32) else f_X8_told_b11 w0 p1 (5 : Int32)
def f_X8_accuseOn_b27 (w0 : Fn) (y0 : Bool) : Option (Int32 × Fn) :=
  (f_X8_told w0 y0).bind (fun q1013 => some (q1013.1, q1013.2))
def f_X8_accuseOn_b18 (w0 : Fn) (y0 : Bool) (y1 : Int32) (y2 : Int32) : Option (Int32 × Fn) :=
  if y2 = (y1 + (b2i y0)) then f_X8_accuseOn_b27 w0 true else f_X8_accuseOn_b27 w0 false
def f_X8_accuseOn (w0 : Fn) (p1 : Int32) (p2 : Bool) : Option (Int32 × Fn) :=
  if (b2i p2) = 0 then f_X8_accuseOn_b18 w0 false ((2 : Int32) * p1) ((w0 (1 : Int32).toNatClampNeg) / (3 : Int32)) else f_X8_accuseOn_b18 w0 true ((2 : Int32) * p1) ((w0 (1 : Int32).toNatClampNeg) / (3 : Int32))
def f_X8_forgetOn (w0 : Fn) : Option (Int32 × Fn) :=
  some (((upd w0 (4 : Int32).toNatClampNeg ((w0 (4 : Int32).toNatClampNeg) - (1 : Int32))) (4 : Int32).toNatClampNeg), (upd w0 (4 : Int32).toNatClampNeg ((w0 (4 : Int32).toNatClampNeg) - (1 : Int32))))
def f_X8_append_b31 (v0 : MOv) (v1 : Fn) (x1 : Int32) (y0 : Int32) : Option (Int32 × MOv × Fn) :=
  (f_X8_refused v0 y0).bind (fun q1023 => if (b2i q1023.1) = 0 then if q1023.2.2.1 < 0 ∨ 120 ≤ q1023.2.2.1.toNatClampNeg then none else some ((q1023.2.2.1 + (1 : Int32)), (q1023.2.1, (q1023.2.2.1 + (1 : Int32)), q1023.2.2.2.1, q1023.2.2.2.2.1, q1023.2.2.2.2.2.1, q1023.2.2.2.2.2.2), (upd v1 q1023.2.2.1.toNatClampNeg x1)) else some ((0 : Int32), q1023.2, v1))
def f_X8_append (v0 : MOv) (v1 : Fn) (p1 : Int32) : Option (Int32 × MOv × Fn) :=
  (f_X8_in (p1.toInt64) (0 : Int64) (255 : Int64)).bind (fun q1022 => if (b2i q1022) = 0 then f_X8_append_b31 v0 v1 p1 (1 : Int32) else if v0.2.1 = (120 : Int32) then f_X8_append_b31 v0 v1 p1 (2 : Int32) else f_X8_append_b31 v0 v1 p1 (0 : Int32))
def f_X8_clearText (v0 : MOv) : Option (Int32 × MOv) :=
  some (v0.2.1, ((0 : Int32), (0 : Int32), v0.2.2.1, v0.2.2.2.1, v0.2.2.2.2.1, v0.2.2.2.2.2))
def f_X8_sign (v0 : MOv) (v1 : Fn) : Option (Int32) :=
  if v0.2.1 ≤ v0.2.2.2.2.1 then some (-1 : Int32) else if v0.2.2.2.2.1 < 0 ∨ 120 ≤ v0.2.2.2.2.1.toNatClampNeg then none else some (v1 v0.2.2.2.2.1.toNatClampNeg)
def f_X8_figures_B16 (v1 : Fn) (x1 : Int32) (x3 : Int32) (x4 : Int32) (z : Int32 × Int32 × MOv) : Option ((Int32 × Int32 × MOv) ⊕ ((MOv) ⊕ (Int32 × MOv))) :=
  if z.2.1 ≤ 0 then some (.inr (.inr (z.1, z.2.2))) else if x1 = (-1 : Int32) then some (.inr (.inr (z.1, z.2.2))) else (f_X8_sign z.2.2 v1).bind (fun q1036 => (f_X8_in ((q1036 - (48 : Int32)).toInt64) (0 : Int64) (9 : Int64)).bind (fun q1037 => if (b2i q1037) = 0 then some (.inr (.inl (z.2.2))) else if x4 < (z.1 + ((q1036 - (48 : Int32)) * z.2.1)) then some (.inr (.inl (z.2.2))) else if x3 ≤ (((z.1 + ((q1036 - (48 : Int32)) * z.2.1)) + z.2.1) - (1 : Int32)) then some (.inl ((z.1 + ((q1036 - (48 : Int32)) * z.2.1)), (z.2.1 / (10 : Int32)), (z.2.2.1, z.2.2.2.1, z.2.2.2.2.1, z.2.2.2.2.2.1, (z.2.2.2.2.2.2.1 + (1 : Int32)), z.2.2.2.2.2.2.2))) else some (.inr (.inl (z.2.2)))))
def f_X8_figures_b102 (v0 : MOv) (v1 : Fn) (x1 : Int32) (x5 : Int32) : Option (Int32 × MOv) :=
  if x1 = (-1 : Int32) then some ((-1 : Int32), v0) else some (x5, v0)
def f_X8_figures_b14 (v0 : MOv) (v1 : Fn) (x1 : Int32) (x3 : Int32) (x4 : Int32) (x5 : Int32) (y0 : Int32) : Option (Int32 × MOv) :=
  (itl (f_X8_figures_B16 v1 x1 x3 x4) FU (x5, y0, v0)).bind (Sum.elim (fun q1043e => some ((-1 : Int32), q1043e)) (fun q1043e => f_X8_figures_b102 q1043e.2 v1 x1 q1043e.1))
def f_X8_figures (v0 : MOv) (v1 : Fn) (p1 : Int32) (p2 : Int32) (p3 : Int32) (p4 : Int32) : Option (Int32 × MOv) :=
  if p2 = (2 : Int32) then f_X8_figures_b14 v0 v1 p1 p3 p4 (0 : Int32) (10 : Int32) else f_X8_figures_b14 v0 v1 p1 p3 p4 (0 : Int32) (1 : Int32)
def f_X8_letters_B5 (v1 : Fn) (x1 : Int32) (z : Int32 × Int32 × MOv) : Option ((Int32 × Int32 × MOv) ⊕ ((Int32 × MOv))) :=
  (f_X8_sign z.2.2 v1).bind (fun q1056 => (f_X8_in (q1056.toInt64) (z.2.1.toInt64) (108 : Int64)).bind (fun q1057 => if (b2i q1057) = 0 then some (.inr ((z.1, z.2.2))) else (f_X8_sign z.2.2 v1).bind (fun q1058 => (f_X8_sign z.2.2 v1).bind (fun q1059 => some (.inl ((z.1 ||| ((1 : Int32) <<< ((q1058 - (97 : Int32)) &&& 31))), (q1059 + (1 : Int32)), (z.2.2.1, z.2.2.2.1, z.2.2.2.2.1, z.2.2.2.2.2.1, (z.2.2.2.2.2.2.1 + (1 : Int32)), z.2.2.2.2.2.2.2)))))))
def f_X8_letters (v0 : MOv) (v1 : Fn) (p1 : Int32) : Option (Int32 × MOv) :=
  (itl (f_X8_letters_B5 v1 p1) FU ((0 : Int32), (97 : Int32), v0)).bind (fun q1061 => (f_X8_sign q1061.2 v1).bind (fun q1062 => if q1062 = p1 then some (q1061.1, (q1061.2.1, q1061.2.2.1, q1061.2.2.2.1, q1061.2.2.2.2.1, (q1061.2.2.2.2.2.1 + (1 : Int32)), q1061.2.2.2.2.2.2)) else some ((-1 : Int32), q1061.2)))
def f_X8_done_b14 (v0 : MOv) (y0 : Bool) (y1 : Int32) : Option (Bool × MOv) :=
  some (true, (v0.1, v0.2.1, v0.2.2.1, v0.2.2.2.1, v0.2.2.2.2.1, (y1 + (b2i y0))))
def f_X8_done (v0 : MOv) (p1 : Bool) : Option (Bool × MOv) :=
  if (b2i p1) = 0 then f_X8_done_b14 v0 true v0.2.2.2.2.2 else f_X8_done_b14 v0 false v0.2.2.2.2.2
def f_X8_readCommand_b94 (v0 : MOv) (v1 : Fn) (w0 : Fn) (y0 : Bool) : Option (Bool × MOv × Fn) :=
  (f_X8_done v0 y0).bind (fun q1091 => if (b2i q1091.1) = 0 then some (false, q1091.2, w0) else some (true, q1091.2, w0))
def f_X8_readCommand_b93 (v0 : MOv) (v1 : Fn) (w0 : Fn) : Option (Bool × MOv × Fn) :=
  f_X8_readCommand_b94 v0 v1 w0 false
def f_X8_readCommand_b64 (v0 : MOv) (v1 : Fn) (w0 : Fn) (x2 : Int32) (y0 : Int32) : Option (Bool × MOv × Fn) :=
  if y0 = (-1 : Int32) then some (false, v0, w0) else (f_X8_canWeigh w0 x2 y0).bind (fun q1090 => if (b2i q1090) = 0 then f_X8_readCommand_b93 v0 v1 w0 else (f_X8_weighOn w0 x2 y0).bind (fun q1093 => if q1093.1 < 0 then f_X8_readCommand_b93 v0 v1 q1093.2 else f_X8_readCommand_b94 v0 v1 q1093.2 true))
def f_X8_readCommand_b156 (v0 : MOv) (v1 : Fn) (w0 : Fn) (y0 : Bool) : Option (Bool × MOv × Fn) :=
  (f_X8_done v0 y0).bind (fun q1101 => if (b2i q1101.1) = 0 then some (false, q1101.2, w0) else some (true, q1101.2, w0))
def f_X8_readCommand (v0 : MOv) (v1 : Fn) (w0 : Fn) : Option (Bool × MOv × Fn) :=
  (f_X8_sign v0 v1).bind (fun q1085 => if q1085 = (97 : Int32) then (f_X8_figures (v0.1, v0.2.1, v0.2.2.1, v0.2.2.2.1, (v0.2.2.2.2.1 + (1 : Int32)), v0.2.2.2.2.2) v1 (0 : Int32) (2 : Int32) (1 : Int32) (20 : Int32)).bind (fun q1098 => (f_X8_figures q1098.2 v1 q1098.1 (2 : Int32) (1 : Int32) (20 : Int32)).bind (fun q1099 => if q1099.1 = (-1 : Int32) then some (false, q1099.2, w0) else (f_X8_armsOn w0 q1098.1 q1099.1).bind (fun q1100 => if q1100.1 < 0 then f_X8_readCommand_b156 q1099.2 v1 q1100.2 false else f_X8_readCommand_b156 q1099.2 v1 q1100.2 true))) else if q1085 = (119 : Int32) then (f_X8_letters (v0.1, v0.2.1, v0.2.2.1, v0.2.2.2.1, (v0.2.2.2.2.1 + (1 : Int32)), v0.2.2.2.2.2) v1 (118 : Int32)).bind (fun q1088 => if q1088.1 = (-1 : Int32) then f_X8_readCommand_b64 q1088.2 v1 w0 q1088.1 (-1 : Int32) else (f_X8_letters q1088.2 v1 (46 : Int32)).bind (fun q1089 => f_X8_readCommand_b64 q1089.2 v1 w0 q1088.1 q1089.1)) else some (false, v0, w0))
def f_X8_readCase_b136 (v0 : MOv) (v1 : Fn) (w0 : Fn) (x5 : Int32) (y0 : Int32) (y1 : Int32) (y2 : Int32) : Option (Bool × MOv × Fn) :=
  (f_X8_hideOn w0 y2 ((y1 * y0) + x5)).bind (fun q1125 => some (true, v0, q1125.2))
def f_X8_readCase_b124 (v0 : MOv) (v1 : Fn) (w0 : Fn) (x2 : Int32) (x5 : Int32) (y0 : Int32) (y1 : Int32) : Option (Bool × MOv × Fn) :=
  f_X8_readCase_b136 v0 v1 w0 x5 ((2 : Int32) * x2) y0 y1
def f_X8_readCase_b87 (v0 : MOv) (v1 : Fn) (w0 : Fn) (x2 : Int32) (x3 : Int32) (x4 : Int32) (y0 : Bool) (y1 : Int32) : Option (Bool × MOv × Fn) :=
  (f_X8_figures (v0.1, v0.2.1, v0.2.2.1, v0.2.2.2.1, (y1 + (b2i y0)), v0.2.2.2.2.2) v1 x4 (1 : Int32) (0 : Int32) (2 : Int32)).bind (fun q1124 => if q1124.1 = (-1 : Int32) then some (false, q1124.2, w0) else if x4 = (2 : Int32) then f_X8_readCase_b124 q1124.2 v1 w0 x2 q1124.1 (3 : Int32) x2 else if x3 < x2 then f_X8_readCase_b136 q1124.2 v1 w0 q1124.1 (((2 : Int32) * x3) + x4) (3 : Int32) x2 else f_X8_readCase_b124 q1124.2 v1 w0 x2 q1124.1 (3 : Int32) x2)
def f_X8_readCase_b69 (v0 : MOv) (v1 : Fn) (w0 : Fn) (x2 : Int32) (x3 : Int32) (y0 : Int32) : Option (Bool × MOv × Fn) :=
  if y0 = (-1 : Int32) then f_X8_readCase_b87 v0 v1 w0 x2 x3 y0 false v0.2.2.2.2.1 else f_X8_readCase_b87 v0 v1 w0 x2 x3 y0 true v0.2.2.2.2.1
def f_X8_readCase (v0 : MOv) (v1 : Fn) (w0 : Fn) : Option (Bool × MOv × Fn) :=
  (f_X8_figures v0 v1 (0 : Int32) (2 : Int32) (3 : Int32) (12 : Int32)).bind (fun q1119 => (f_X8_figures q1119.2 v1 q1119.1 (2 : Int32) (0 : Int32) (11 : Int32)).bind (fun q1120 => if q1120.1 = (-1 : Int32) then f_X8_readCase_b69 q1120.2 v1 w0 q1119.1 q1120.1 (-1 : Int32) else (f_X8_sign q1120.2 v1).bind (fun q1121 => if q1121 = (108 : Int32) then f_X8_readCase_b69 q1120.2 v1 w0 q1119.1 q1120.1 (0 : Int32) else (f_X8_sign q1120.2 v1).bind (fun q1122 => if q1122 = (104 : Int32) then f_X8_readCase_b69 q1120.2 v1 w0 q1119.1 q1120.1 (1 : Int32) else (f_X8_sign q1120.2 v1).bind (fun q1123 => if q1123 = (116 : Int32) then f_X8_readCase_b69 q1120.2 v1 w0 q1119.1 q1120.1 (2 : Int32) else f_X8_readCase_b69 q1120.2 v1 w0 q1119.1 q1120.1 (-1 : Int32))))))
def f_X8_readText_B43 (v1 : Fn) (z : MOv × Fn) : Option ((MOv × Fn) ⊕ ((MOv × Fn) ⊕ (MOv × Fn))) :=
  if z.1.2.1 ≤ z.1.2.2.2.2.1 then some (.inr (.inr (z.1, z.2))) else (f_X8_readCommand z.1 v1 z.2).bind (fun q1145 => if (b2i q1145.1) = 0 then some (.inr (.inl (q1145.2.1, q1145.2.2))) else some (.inl (q1145.2.1, q1145.2.2)))
def f_X8_readText (v0 : MOv) (v1 : Fn) (w0 : Fn) : Option (Int32 × MOv × Fn) :=
  (f_X8_clear w0).bind (fun q1142 => (f_X8_sign (v0.1, v0.2.1, v0.2.2.1, v0.2.2.2.1, (0 : Int32), (0 : Int32)) v1).bind (fun q1143 => if q1143 = (80 : Int32) then (f_X8_readCase (v0.1, v0.2.1, v0.2.2.1, v0.2.2.2.1, (1 : Int32), (0 : Int32)) v1 q1142).bind (fun q1144 => if (b2i q1144.1) = 0 then some (q1144.2.1.2.2.2.2.1, q1144.2.1, q1144.2.2) else (itl (f_X8_readText_B43 v1) FU (q1144.2.1, q1144.2.2)).bind (Sum.elim (fun q1148e => some (q1148e.1.2.2.2.2.1, q1148e.1, q1148e.2)) (fun q1148e => some ((-1 : Int32), q1148e.1, q1148e.2)))) else some ((0 : Int32), (v0.1, v0.2.1, v0.2.2.1, v0.2.2.2.1, (0 : Int32), (0 : Int32)), q1142)))
def f_X8_errorPosition (v0 : MOv) (v1 : Fn) (v3 : Fn) : Option (Int32 × MOv × Fn) :=
  (f_X8_readText ((0 : Int32), v0.2.1, v0.2.2.1, v0.2.2.2.1, v0.2.2.2.2.1, v0.2.2.2.2.2) v1 v3).bind (fun q1153 => some (q1153.1, q1153.2.1, q1153.2.2))
def f_X8_load_b18 (v0 : MOv) (v1 : Fn) (v2 : Fn) (v3 : Fn) (v6 : Fn) (y0 : Bool) : Option (Int32 × MOv × Fn × Fn × Fn) :=
  (f_X8_refused v0 (b2i y0)).bind (fun q1161 => if (b2i q1161.1) = 0 then (f_X8_copyState 107 107 v3 v2 (0 : Int32) (0 : Int32)).bind (fun q1162 => some (q1161.2.2.2.2.2.2, (q1161.2.1, q1161.2.2.1, (0 : Int32), q1161.2.2.2.2.1, q1161.2.2.2.2.2.1, q1161.2.2.2.2.2.2), q1162, v3, (upd (upd v6 (0 : Int32).toNatClampNeg (vp_nar .boolean (0 : Int32))) (1 : Int32).toNatClampNeg (vp_nar .boolean (0 : Int32))))) else some ((0 : Int32), q1161.2, v2, v3, v6))
def f_X8_load (v0 : MOv) (v1 : Fn) (v2 : Fn) (v3 : Fn) (v6 : Fn) : Option (Int32 × MOv × Fn × Fn × Fn) :=
  (f_X8_readText v0 v1 v3).bind (fun q1160 => if q1160.1 = (-1 : Int32) then f_X8_load_b18 q1160.2.1 v1 v2 q1160.2.2 v6 false else f_X8_load_b18 q1160.2.1 v1 v2 q1160.2.2 v6 true)
def f_X8_about_B113_b150 (v0 : MOv) (v2 : Fn) (x3 : Int32) (y0 : Bool) (y1 : Int32) : Option ((Int32 × Int32) ⊕ ((Int32))) :=
  some (.inl ((y1 + (b2i y0)), (x3 + (1 : Int32))))
def f_X8_about_B113 (v0 : MOv) (v2 : Fn) (z : Int32 × Int32) : Option ((Int32 × Int32) ⊕ ((Int32))) :=
  if (v2 (4 : Int32).toNatClampNeg) ≤ z.2 then some (.inr ((z.1))) else (f_X8_many v2 z.2).bind (fun q1191 => (f_X8_many v2 (z.2 + (1 : Int32))).bind (fun q1192 => if q1191 = q1192 then f_X8_about_B113_b150 v0 v2 z.2 true z.1 else f_X8_about_B113_b150 v0 v2 z.2 false z.1))
def f_X8_about_b18 (v0 : MOv) (v2 : Fn) (x1 : Int32) (y0 : Bool) : Option (Int32 × MOv) :=
  (f_X8_refused v0 (b2i y0)).bind (fun q1182 => if (b2i q1182.1) = 0 then if x1 = (0 : Int32) then some ((v2 (0 : Int32).toNatClampNeg), q1182.2) else if x1 = (1 : Int32) then (f_X8_allOf (v2 (0 : Int32).toNatClampNeg)).bind (fun q1199 => some (q1199, q1182.2)) else if x1 = (2 : Int32) then (f_X8_leftOf v2).bind (fun q1198 => some (q1198, q1182.2)) else if x1 = (3 : Int32) then some ((v2 (4 : Int32).toNatClampNeg), q1182.2) else if x1 = (4 : Int32) then if (x1 - (2 : Int32)) < 0 ∨ 107 ≤ (x1 - (2 : Int32)).toNatClampNeg then none else some ((v2 (x1 - (2 : Int32)).toNatClampNeg), q1182.2) else if x1 = (5 : Int32) then if (x1 - (2 : Int32)) < 0 ∨ 107 ≤ (x1 - (2 : Int32)).toNatClampNeg then none else some ((v2 (x1 - (2 : Int32)).toNatClampNeg), q1182.2) else if x1 = (6 : Int32) then (itl (f_X8_about_B113 q1182.2 v2) FU ((0 : Int32), (0 : Int32))).bind (fun q1195 => some (q1195, q1182.2)) else if (x1 - (2 : Int32)) < 0 ∨ 107 ≤ (x1 - (2 : Int32)).toNatClampNeg then none else some ((v2 (x1 - (2 : Int32)).toNatClampNeg), q1182.2) else some ((0 : Int32), q1182.2))
def f_X8_about (v0 : MOv) (v2 : Fn) (p1 : Int32) : Option (Int32 × MOv) :=
  (f_X8_in (p1.toInt64) (0 : Int64) (8 : Int64)).bind (fun q1181 => if (b2i q1181) = 0 then f_X8_about_b18 v0 v2 p1 true else f_X8_about_b18 v0 v2 p1 false)
def f_X8_coin_b17 (v0 : MOv) (v2 : Fn) (x1 : Int32) (y0 : Bool) : Option (Int32 × MOv) :=
  (f_X8_refused v0 (b2i y0)).bind (fun q1209 => if (b2i q1209.1) = 0 then (f_X8_coinOf v2 x1).bind (fun q1210 => some (q1210, q1209.2)) else some ((0 : Int32), q1209.2))
def f_X8_coin (v0 : MOv) (v2 : Fn) (p1 : Int32) : Option (Int32 × MOv) :=
  (f_X8_isCoin v2 p1).bind (fun q1208 => if (b2i q1208) = 0 then f_X8_coin_b17 v0 v2 p1 true else f_X8_coin_b17 v0 v2 p1 false)
def f_X8_pans (v0 : MOv) (v2 : Fn) : Option (Int32 × MOv) :=
  (f_X8_pansOf v2).bind (fun q1215 => some (q1215, ((0 : Int32), v0.2.1, v0.2.2.1, v0.2.2.2.1, v0.2.2.2.2.1, v0.2.2.2.2.2)))
def f_X8_isLeft_b27 (v0 : MOv) (v2 : Fn) (x1 : Int32) (y0 : Bool) : Option (Int32 × MOv) :=
  (f_X8_refused v0 (b2i y0)).bind (fun q1226 => if (b2i q1226.1) = 0 then (f_X8_fits v2 x1 (v2 (4 : Int32).toNatClampNeg)).bind (fun q1227 => if (b2i q1227) = 0 then some ((0 : Int32), q1226.2) else some ((1 : Int32), q1226.2)) else some ((0 : Int32), q1226.2))
def f_X8_isLeft (v0 : MOv) (v2 : Fn) (p1 : Int32) : Option (Int32 × MOv) :=
  (f_X8_allOf (v2 (0 : Int32).toNatClampNeg)).bind (fun q1224 => (f_X8_in (p1.toInt64) (0 : Int64) ((q1224 - (1 : Int32)).toInt64)).bind (fun q1225 => if (b2i q1225) = 0 then f_X8_isLeft_b27 v0 v2 p1 true else f_X8_isLeft_b27 v0 v2 p1 false))
def f_X8_weighing_b40 (v0 : MOv) (v2 : Fn) (x1 : Int32) (x2 : Int32) (y0 : Int32) : Option (Int32 × MOv) :=
  (f_X8_refused v0 y0).bind (fun q1245 => if (b2i q1245.1) = 0 then if x2 = (5 : Int32) then (f_X8_many v2 (x1 + (1 : Int32))).bind (fun q1248 => some (q1248, q1245.2)) else (f_X8_at x1).bind (fun q1246 => if (q1246 + x2) < 0 ∨ 107 ≤ (q1246 + x2).toNatClampNeg then none else some ((v2 (q1246 + x2).toNatClampNeg), q1245.2)) else some ((0 : Int32), q1245.2))
def f_X8_weighing (v0 : MOv) (v2 : Fn) (p1 : Int32) (p2 : Int32) : Option (Int32 × MOv) :=
  (f_X8_in (p1.toInt64) (0 : Int64) (((v2 (4 : Int32).toNatClampNeg) - (1 : Int32)).toInt64)).bind (fun q1243 => if (b2i q1243) = 0 then f_X8_weighing_b40 v0 v2 p1 p2 (1 : Int32) else (f_X8_in (p2.toInt64) (0 : Int64) (5 : Int64)).bind (fun q1244 => if (b2i q1244) = 0 then f_X8_weighing_b40 v0 v2 p1 p2 (2 : Int32) else f_X8_weighing_b40 v0 v2 p1 p2 (0 : Int32)))
def f_X8_remember_b49 (v0 : MOv) (v2 : Fn) (v4 : Fn) : Option (MOv × Fn) :=
  (f_X8_copyState 107 1498 v2 v4 (0 : Int32) ((107 : Int32) * v0.2.2.1)).bind (fun q1257 => some ((v0.1, v0.2.1, (v0.2.2.1 + (1 : Int32)), v0.2.2.2.1, v0.2.2.2.2.1, v0.2.2.2.2.2), q1257))
def f_X8_remember_B11 (v0 : MOv) (v2 : Fn) (z : Int32 × Fn) : Option ((Int32 × Fn) ⊕ ((Fn))) :=
  if (1391 : Int32) ≤ z.1 then some (.inr ((z.2))) else if (z.1 + (107 : Int32)) < 0 ∨ 1498 ≤ (z.1 + (107 : Int32)).toNatClampNeg then none else if z.1 < 0 ∨ 1498 ≤ z.1.toNatClampNeg then none else some (.inl ((z.1 + (1 : Int32)), (upd z.2 z.1.toNatClampNeg (z.2 (z.1 + (107 : Int32)).toNatClampNeg))))
def f_X8_remember (v0 : MOv) (v2 : Fn) (v4 : Fn) : Option (MOv × Fn) :=
  if v0.2.2.1 = (14 : Int32) then (itl (f_X8_remember_B11 v0 v2) FU ((0 : Int32), v4)).bind (fun q1261 => f_X8_remember_b49 (v0.1, v0.2.1, (v0.2.2.1 - (1 : Int32)), v0.2.2.2.1, v0.2.2.2.2.1, v0.2.2.2.2.2) v2 q1261) else f_X8_remember_b49 v0 v2 v4
def f_X8_hide_b33 (v0 : MOv) (v2 : Fn) (v4 : Fn) (x1 : Int32) (x2 : Int32) (y0 : Int32) : Option (Int32 × MOv × Fn × Fn) :=
  (f_X8_refused v0 y0).bind (fun q1278 => if (b2i q1278.1) = 0 then (f_X8_remember q1278.2 v2 v4).bind (fun q1279 => (f_X8_hideOn v2 x1 x2).bind (fun q1280 => some (q1280.1, q1279.1, q1280.2, q1279.2))) else some ((0 : Int32), q1278.2, v2, v4))
def f_X8_hide (v0 : MOv) (v2 : Fn) (v4 : Fn) (p1 : Int32) (p2 : Int32) : Option (Int32 × MOv × Fn × Fn) :=
  (f_X8_isCoins p1).bind (fun q1275 => if (b2i q1275) = 0 then f_X8_hide_b33 v0 v2 v4 p1 p2 (2 : Int32) else (f_X8_allOf p1).bind (fun q1276 => (f_X8_in (p2.toInt64) (0 : Int64) ((q1276 - (1 : Int32)).toInt64)).bind (fun q1277 => if (b2i q1277) = 0 then f_X8_hide_b33 v0 v2 v4 p1 p2 (1 : Int32) else f_X8_hide_b33 v0 v2 v4 p1 p2 (0 : Int32))))
def f_X8_arms_b14 (v0 : MOv) (v2 : Fn) (v4 : Fn) (x1 : Int32) (x2 : Int32) (y0 : Bool) : Option (Int32 × MOv × Fn × Fn) :=
  (f_X8_refused v0 (b2i y0)).bind (fun q1293 => if (b2i q1293.1) = 0 then (f_X8_remember q1293.2 v2 v4).bind (fun q1294 => (f_X8_armsOn v2 x1 x2).bind (fun q1295 => some (q1295.1, q1294.1, q1295.2, q1294.2))) else some ((0 : Int32), q1293.2, v2, v4))
def f_X8_arms (v0 : MOv) (v2 : Fn) (v4 : Fn) (p1 : Int32) (p2 : Int32) : Option (Int32 × MOv × Fn × Fn) :=
  (f_X8_isArms p1 p2).bind (fun q1292 => if (b2i q1292) = 0 then f_X8_arms_b14 v0 v2 v4 p1 p2 true else f_X8_arms_b14 v0 v2 v4 p1 p2 false)
def f_X8_weigh_b34 (v0 : MOv) (v2 : Fn) (v4 : Fn) (x1 : Int32) (x2 : Int32) (y0 : Int32) : Option (Int32 × MOv × Fn × Fn) :=
  (f_X8_refused v0 y0).bind (fun q1310 => if (b2i q1310.1) = 0 then (f_X8_remember q1310.2 v2 v4).bind (fun q1311 => (f_X8_weighOn v2 x1 x2).bind (fun q1312 => some (q1312.1, q1311.1, q1312.2, q1311.2))) else some ((0 : Int32), q1310.2, v2, v4))
def f_X8_weigh (v0 : MOv) (v2 : Fn) (v4 : Fn) (p1 : Int32) (p2 : Int32) : Option (Int32 × MOv × Fn × Fn) :=
  (f_X8_isWeighing v2 p1 p2).bind (fun q1308 => if (b2i q1308) = 0 then f_X8_weigh_b34 v0 v2 v4 p1 p2 (1 : Int32) else (f_X8_canWeigh v2 p1 p2).bind (fun q1309 => if (b2i q1309) = 0 then f_X8_weigh_b34 v0 v2 v4 p1 p2 (2 : Int32) else f_X8_weigh_b34 v0 v2 v4 p1 p2 (0 : Int32)))
def f_X8_accuse_b17 (v0 : MOv) (v2 : Fn) (v4 : Fn) (x1 : Int32) (x2 : Bool) (y0 : Bool) : Option (Int32 × MOv × Fn × Fn) :=
  (f_X8_refused v0 (b2i y0)).bind (fun q1325 => if (b2i q1325.1) = 0 then (f_X8_remember q1325.2 v2 v4).bind (fun q1326 => (f_X8_accuseOn v2 x1 x2).bind (fun q1327 => some (q1327.1, q1326.1, q1327.2, q1326.2))) else some ((0 : Int32), q1325.2, v2, v4))
def f_X8_accuse (v0 : MOv) (v2 : Fn) (v4 : Fn) (p1 : Int32) (p2 : Bool) : Option (Int32 × MOv × Fn × Fn) :=
  (f_X8_isCoin v2 p1).bind (fun q1324 => if (b2i q1324) = 0 then f_X8_accuse_b17 v0 v2 v4 p1 p2 true else f_X8_accuse_b17 v0 v2 v4 p1 p2 false)
def f_X8_accusePan_b51 (v0 : MOv) (v2 : Fn) (v4 : Fn) (y0 : Bool) : Option (Int32 × MOv × Fn × Fn) :=
  (f_X8_told v2 y0).bind (fun q1341 => some (q1341.1, v0, q1341.2, v4))
def f_X8_accusePan_b18 (v0 : MOv) (v2 : Fn) (v4 : Fn) (x1 : Int32) (y0 : Bool) : Option (Int32 × MOv × Fn × Fn) :=
  (f_X8_refused v0 (b2i y0)).bind (fun q1339 => if (b2i q1339.1) = 0 then (f_X8_remember q1339.2 v2 v4).bind (fun q1340 => if ((v2 (1 : Int32).toNatClampNeg) - (v2 (1 : Int32).toNatClampNeg) / (3 : Int32) * (3 : Int32)) = x1 then f_X8_accusePan_b51 q1340.1 v2 q1340.2 true else f_X8_accusePan_b51 q1340.1 v2 q1340.2 false) else some ((0 : Int32), q1339.2, v2, v4))
def f_X8_accusePan (v0 : MOv) (v2 : Fn) (v4 : Fn) (p1 : Int32) : Option (Int32 × MOv × Fn × Fn) :=
  (f_X8_in (p1.toInt64) (0 : Int64) (2 : Int64)).bind (fun q1338 => if (b2i q1338) = 0 then f_X8_accusePan_b18 v0 v2 v4 p1 true else f_X8_accusePan_b18 v0 v2 v4 p1 false)
def f_X8_forget_b15 (v0 : MOv) (v2 : Fn) (v4 : Fn) (y0 : Bool) : Option (Int32 × MOv × Fn × Fn) :=
  (f_X8_refused v0 (b2i y0)).bind (fun q1351 => if (b2i q1351.1) = 0 then (f_X8_remember q1351.2 v2 v4).bind (fun q1352 => (f_X8_forgetOn v2).bind (fun q1353 => some (q1353.1, q1352.1, q1353.2, q1352.2))) else some ((0 : Int32), q1351.2, v2, v4))
def f_X8_forget (v0 : MOv) (v2 : Fn) (v4 : Fn) : Option (Int32 × MOv × Fn × Fn) :=
  if (v2 (4 : Int32).toNatClampNeg) = 0 then f_X8_forget_b15 v0 v2 v4 true else f_X8_forget_b15 v0 v2 v4 false
def f_X8_undo_b13 (v0 : MOv) (v2 : Fn) (v4 : Fn) (y0 : Bool) : Option (Int32 × MOv × Fn) :=
  (f_X8_refused v0 (b2i y0)).bind (fun q1360 => if (b2i q1360.1) = 0 then (f_X8_copyState 1498 107 v4 v2 ((107 : Int32) * (q1360.2.2.2.1 - (1 : Int32))) (0 : Int32)).bind (fun q1361 => some ((q1360.2.2.2.1 - (1 : Int32)), (q1360.2.1, q1360.2.2.1, (q1360.2.2.2.1 - (1 : Int32)), q1360.2.2.2.2.1, q1360.2.2.2.2.2.1, q1360.2.2.2.2.2.2), q1361)) else some ((0 : Int32), q1360.2, v2))
def f_X8_undo (v0 : MOv) (v2 : Fn) (v4 : Fn) : Option (Int32 × MOv × Fn) :=
  if v0.2.2.1 = 0 then f_X8_undo_b13 v0 v2 v4 true else f_X8_undo_b13 v0 v2 v4 false
def f_X8_leaves_b34 (v0 : MOv) (v2 : Fn) (v7 : Fn) (v8 : Fn) (x1 : Int32) (x2 : Int32) (x3 : Int32) (y0 : Int32) : Option (Int32 × MOv × Fn × Fn) :=
  (f_X8_refused v0 y0).bind (fun q1378 => if (b2i q1378.1) = 0 then (f_X8_gather q1378.2 v7 v2).bind (fun q1379 => (f_X8_worst q1379.1 q1379.2 v8 x1 x2 (v2 (2 : Int32).toNatClampNeg) (v2 (3 : Int32).toNatClampNeg)).bind (fun q1380 => if x3 < 0 ∨ 3 ≤ x3.toNatClampNeg then none else some ((q1380.2 x3.toNatClampNeg), q1379.1, q1379.2, q1380.2))) else some ((0 : Int32), q1378.2, v7, v8))
def f_X8_leaves (v0 : MOv) (v2 : Fn) (v7 : Fn) (v8 : Fn) (p1 : Int32) (p2 : Int32) (p3 : Int32) : Option (Int32 × MOv × Fn × Fn) :=
  (f_X8_in (p3.toInt64) (0 : Int64) (2 : Int64)).bind (fun q1376 => if (b2i q1376) = 0 then f_X8_leaves_b34 v0 v2 v7 v8 p1 p2 p3 (1 : Int32) else (f_X8_isWeighing v2 p1 p2).bind (fun q1377 => if (b2i q1377) = 0 then f_X8_leaves_b34 v0 v2 v7 v8 p1 p2 p3 (2 : Int32) else f_X8_leaves_b34 v0 v2 v7 v8 p1 p2 p3 (0 : Int32)))
def f_X8_best_B76_b192 (v0 : MOv) (v2 : Fn) (v7 : Fn) (v8 : Fn) (x1 : Int32) (x2 : Int32) (x3 : Int32) (x4 : Int32) (x5 : Int32) (x6 : Int32) (x7 : Int32) (x8 : Int32) : Option ((Int32 × Int32 × Int32 × Int32 × Fn) ⊕ ((Int32 × Int32 × Int32 × Fn))) :=
  some (.inl (x4, x5, x6, (x8 + (1 : Int32)), v8))
def f_X8_best_B76_b190 (v0 : MOv) (v2 : Fn) (v7 : Fn) (v8 : Fn) (x1 : Int32) (x2 : Int32) (x3 : Int32) (x4 : Int32) (x5 : Int32) (x7 : Int32) (x8 : Int32) (y0 : Int32) : Option ((Int32 × Int32 × Int32 × Int32 × Fn) ⊕ ((Int32 × Int32 × Int32 × Fn))) :=
  f_X8_best_B76_b192 v0 v2 v7 v8 x1 x2 x3 x4 x5 y0 x7 x8
def f_X8_best_B76_b176 (v0 : MOv) (v2 : Fn) (v7 : Fn) (v8 : Fn) (x1 : Int32) (x2 : Int32) (x3 : Int32) (x4 : Int32) (x6 : Int32) (x7 : Int32) (x8 : Int32) (x9 : Int32) (x10 : Int32) (y0 : Int32) : Option ((Int32 × Int32 × Int32 × Int32 × Fn) ⊕ ((Int32 × Int32 × Int32 × Fn))) :=
  if x10 = 0 then f_X8_best_B76_b190 v0 v2 v7 v8 x1 x2 x3 x4 y0 x7 x8 x6 else f_X8_best_B76_b190 v0 v2 v7 v8 x1 x2 x3 x4 y0 x7 x8 x9
def f_X8_best_B76_b162 (v0 : MOv) (v2 : Fn) (v7 : Fn) (v8 : Fn) (x1 : Int32) (x2 : Int32) (x3 : Int32) (x5 : Int32) (x6 : Int32) (x7 : Int32) (x8 : Int32) (x9 : Int32) (x10 : Int32) (y0 : Int32) : Option ((Int32 × Int32 × Int32 × Int32 × Fn) ⊕ ((Int32 × Int32 × Int32 × Fn))) :=
  if x10 = 0 then f_X8_best_B76_b176 v0 v2 v7 v8 x1 x2 x3 y0 x6 x7 x8 x9 x10 x5 else f_X8_best_B76_b176 v0 v2 v7 v8 x1 x2 x3 y0 x6 x7 x8 x9 x10 x8
def f_X8_best_B76_b148 (v0 : MOv) (v2 : Fn) (v7 : Fn) (v8 : Fn) (x1 : Int32) (x2 : Int32) (x3 : Int32) (x4 : Int32) (x5 : Int32) (x6 : Int32) (x7 : Int32) (x8 : Int32) (x9 : Int32) (y0 : Bool) : Option ((Int32 × Int32 × Int32 × Int32 × Fn) ⊕ ((Int32 × Int32 × Int32 × Fn))) :=
  if (b2i y0) = 0 then f_X8_best_B76_b162 v0 v2 v7 v8 x1 x2 x3 x5 x6 x7 x8 x9 (b2i y0) x4 else f_X8_best_B76_b162 v0 v2 v7 v8 x1 x2 x3 x5 x6 x7 x8 x9 (b2i y0) x7
def f_X8_best_B76_b143 (v0 : MOv) (v2 : Fn) (v7 : Fn) (v8 : Fn) (x1 : Int32) (x2 : Int32) (x3 : Int32) (x4 : Int32) (x5 : Int32) (x6 : Int32) (x7 : Int32) (x8 : Int32) (x9 : Int32) : Option ((Int32 × Int32 × Int32 × Int32 × Fn) ⊕ ((Int32 × Int32 × Int32 × Fn))) :=
  f_X8_best_B76_b148 v0 v2 v7 v8 x1 x2 x3 x4 x5 x6 x7 x8 x9 true
def f_X8_best_B76 (v0 : MOv) (v2 : Fn) (v7 : Fn) (x1 : Int32) (x2 : Int32) (x3 : Int32) (x7 : Int32) (z : Int32 × Int32 × Int32 × Int32 × Fn) : Option ((Int32 × Int32 × Int32 × Int32 × Fn) ⊕ ((Int32 × Int32 × Int32 × Fn))) :=
  if x3 ≤ z.2.2.2.1 then some (.inr ((z.1, z.2.1, z.2.2.1, z.2.2.2.2))) else (f_X8_bits x7).bind (fun q1402 => if q1402 = x1 then if (x7 &&& z.2.2.2.1) = 0 then (f_X8_bits z.2.2.2.1).bind (fun q1403 => if q1403 = x1 then (f_X8_worst v0 v7 z.2.2.2.2 x7 z.2.2.2.1 (v2 (2 : Int32).toNatClampNeg) (v2 (3 : Int32).toNatClampNeg)).bind (fun q1404 => if z.2.2.1 = (-1 : Int32) then f_X8_best_B76_b143 v0 v2 v7 q1404.2 x1 x2 x3 z.1 z.2.1 z.2.2.1 x7 z.2.2.2.1 q1404.1 else if z.2.2.1 ≤ q1404.1 then f_X8_best_B76_b148 v0 v2 v7 q1404.2 x1 x2 x3 z.1 z.2.1 z.2.2.1 x7 z.2.2.2.1 q1404.1 false else f_X8_best_B76_b143 v0 v2 v7 q1404.2 x1 x2 x3 z.1 z.2.1 z.2.2.1 x7 z.2.2.2.1 q1404.1) else f_X8_best_B76_b192 v0 v2 v7 z.2.2.2.2 x1 x2 x3 z.1 z.2.1 z.2.2.1 x7 z.2.2.2.1) else f_X8_best_B76_b192 v0 v2 v7 z.2.2.2.2 x1 x2 x3 z.1 z.2.1 z.2.2.1 x7 z.2.2.2.1 else some (.inr ((z.1, z.2.1, z.2.2.1, z.2.2.2.2))))
def f_X8_best_B67_b198 (v0 : MOv) (v2 : Fn) (v7 : Fn) (v8 : Fn) (x1 : Int32) (x2 : Int32) (x3 : Int32) (x4 : Int32) (x5 : Int32) (x6 : Int32) (x7 : Int32) : Option ((Int32 × Int32 × Int32 × Int32 × Fn) ⊕ ((Int32 × Int32 × Int32 × Fn))) :=
  some (.inl (x4, x5, x6, (x7 + (1 : Int32)), v8))
def f_X8_best_B67 (v0 : MOv) (v2 : Fn) (v7 : Fn) (x1 : Int32) (x2 : Int32) (x3 : Int32) (z : Int32 × Int32 × Int32 × Int32 × Fn) : Option ((Int32 × Int32 × Int32 × Int32 × Fn) ⊕ ((Int32 × Int32 × Int32 × Fn))) :=
  if x3 ≤ z.2.2.2.1 then some (.inr ((z.1, z.2.1, z.2.2.1, z.2.2.2.2))) else (itl (f_X8_best_B76 v0 v2 v7 x1 x2 x3 z.2.2.2.1) FU (z.1, z.2.1, z.2.2.1, (0 : Int32), z.2.2.2.2)).bind (fun q1414 => f_X8_best_B67_b198 v0 v2 v7 q1414.2.2.2 x1 x2 x3 q1414.1 q1414.2.1 q1414.2.2.1 z.2.2.2.1)
def f_X8_best_b30 (v0 : MOv) (v2 : Fn) (v7 : Fn) (v8 : Fn) (x1 : Int32) (x2 : Int32) (y0 : Bool) : Option (Int32 × MOv × Fn × Fn) :=
  (f_X8_refused v0 (b2i y0)).bind (fun q1400 => if (b2i q1400.1) = 0 then (f_X8_gather q1400.2 v7 v2).bind (fun q1401 => (itl (f_X8_best_B67 q1401.1 v2 q1401.2 x1 x2 ((1 : Int32) <<< ((v2 (0 : Int32).toNatClampNeg) &&& 31))) FU ((-1 : Int32), (-1 : Int32), (-1 : Int32), (0 : Int32), v8)).bind (fun q1416 => if x2 = 0 then some (q1416.1, q1401.1, q1401.2, q1416.2.2.2) else if x2 = (1 : Int32) then some (q1416.2.1, q1401.1, q1401.2, q1416.2.2.2) else some (q1416.2.2.1, q1401.1, q1401.2, q1416.2.2.2))) else some ((0 : Int32), q1400.2, v7, v8))
def f_X8_best_b29 (v0 : MOv) (v2 : Fn) (v7 : Fn) (v8 : Fn) (x1 : Int32) (x2 : Int32) : Option (Int32 × MOv × Fn × Fn) :=
  f_X8_best_b30 v0 v2 v7 v8 x1 x2 true
def f_X8_best (v0 : MOv) (v2 : Fn) (v7 : Fn) (v8 : Fn) (p1 : Int32) (p2 : Int32) : Option (Int32 × MOv × Fn × Fn) :=
  (f_X8_in (p1.toInt64) (1 : Int64) (2 : Int64)).bind (fun q1399 => if (b2i q1399) = 0 then f_X8_best_b29 v0 v2 v7 v8 p1 p2 else (f_X8_in (p2.toInt64) (0 : Int64) (2 : Int64)).bind (fun q1420 => if (b2i q1420) = 0 then f_X8_best_b29 v0 v2 v7 v8 p1 p2 else f_X8_best_b30 v0 v2 v7 v8 p1 p2 false))
def f_X8_sharpest_B32_b172 (v0 : MOv) (v2 : Fn) (v7 : Fn) (v8 : Fn) (x1 : Int32) (x2 : Int32) (x3 : Int32) (x4 : Int32) : Option ((Int32 × Int32 × Int32 × Fn) ⊕ ((Int32 × Int32 × Fn))) :=
  some (.inl (x1, x2, (x4 + (1 : Int32)), v8))
def f_X8_sharpest_B32_b171 (v0 : MOv) (v2 : Fn) (v7 : Fn) (v8 : Fn) (x1 : Int32) (x3 : Int32) (x4 : Int32) (y0 : Int32) : Option ((Int32 × Int32 × Int32 × Fn) ⊕ ((Int32 × Int32 × Fn))) :=
  f_X8_sharpest_B32_b172 v0 v2 v7 v8 x1 y0 x3 x4
def f_X8_sharpest_B32_b158 (v0 : MOv) (v2 : Fn) (v7 : Fn) (v8 : Fn) (x2 : Int32) (x3 : Int32) (x4 : Int32) (x5 : Int32) (y0 : Int32) : Option ((Int32 × Int32 × Int32 × Fn) ⊕ ((Int32 × Int32 × Fn))) :=
  if x5 ≤ x2 then f_X8_sharpest_B32_b171 v0 v2 v7 v8 y0 x3 x4 x2 else f_X8_sharpest_B32_b171 v0 v2 v7 v8 y0 x3 x4 x5
def f_X8_sharpest_B32_b141 (v0 : MOv) (v2 : Fn) (v7 : Fn) (v8 : Fn) (x1 : Int32) (x2 : Int32) (x3 : Int32) (x4 : Int32) (x5 : Int32) : Option ((Int32 × Int32 × Int32 × Fn) ⊕ ((Int32 × Int32 × Fn))) :=
  if x5 ≤ x2 then f_X8_sharpest_B32_b158 v0 v2 v7 v8 x2 x3 x4 x5 x1 else f_X8_sharpest_B32_b158 v0 v2 v7 v8 x2 x3 x4 x5 (((100 : Int32) * x3) + x4)
def f_X8_sharpest_B32_b82 (v0 : MOv) (v2 : Fn) (v7 : Fn) (v8 : Fn) (x1 : Int32) (x2 : Int32) (x3 : Int32) (x4 : Int32) (y0 : Int32) (y1 : Int32) : Option ((Int32 × Int32 × Int32 × Fn) ⊕ ((Int32 × Int32 × Fn))) :=
  (f_X8_worst v0 v7 v8 y1 y0 (v2 (2 : Int32).toNatClampNeg) (v2 (3 : Int32).toNatClampNeg)).bind (fun q1428 => f_X8_sharpest_B32_b141 v0 v2 v7 q1428.2 x1 x2 x3 x4 ((((q1428.2 (0 : Int32).toNatClampNeg) * (q1428.2 (1 : Int32).toNatClampNeg)) + ((q1428.2 (0 : Int32).toNatClampNeg) * (q1428.2 (2 : Int32).toNatClampNeg))) + ((q1428.2 (1 : Int32).toNatClampNeg) * (q1428.2 (2 : Int32).toNatClampNeg))))
def f_X8_sharpest_B32_b63 (v0 : MOv) (v2 : Fn) (v7 : Fn) (v8 : Fn) (x1 : Int32) (x2 : Int32) (x3 : Int32) (x4 : Int32) : Option ((Int32 × Int32 × Int32 × Fn) ⊕ ((Int32 × Int32 × Fn))) :=
  if x4 = (12 : Int32) then f_X8_sharpest_B32_b82 v0 v2 v7 v8 x1 x2 x3 x4 (0 : Int32) ((1 : Int32) <<< (x3 &&& 31)) else f_X8_sharpest_B32_b82 v0 v2 v7 v8 x1 x2 x3 x4 ((1 : Int32) <<< (x4 &&& 31)) ((1 : Int32) <<< (x3 &&& 31))
def f_X8_sharpest_B32 (v0 : MOv) (v2 : Fn) (v7 : Fn) (x3 : Int32) (z : Int32 × Int32 × Int32 × Fn) : Option ((Int32 × Int32 × Int32 × Fn) ⊕ ((Int32 × Int32 × Fn))) :=
  if (12 : Int32) < z.2.2.1 then some (.inr ((z.1, z.2.1, z.2.2.2))) else if z.2.2.1 = (12 : Int32) then f_X8_sharpest_B32_b63 v0 v2 v7 z.2.2.2 z.1 z.2.1 x3 z.2.2.1 else if (v2 (0 : Int32).toNatClampNeg) ≤ z.2.2.1 then f_X8_sharpest_B32_b172 v0 v2 v7 z.2.2.2 z.1 z.2.1 x3 z.2.2.1 else if z.2.2.1 = x3 then f_X8_sharpest_B32_b172 v0 v2 v7 z.2.2.2 z.1 z.2.1 x3 z.2.2.1 else f_X8_sharpest_B32_b63 v0 v2 v7 z.2.2.2 z.1 z.2.1 x3 z.2.2.1
def f_X8_sharpest_B19 (v0 : MOv) (v2 : Fn) (v7 : Fn) (z : Int32 × Int32 × Int32 × Fn) : Option ((Int32 × Int32 × Int32 × Fn) ⊕ ((Int32 × Fn))) :=
  if (v2 (0 : Int32).toNatClampNeg) ≤ z.2.2.1 then some (.inr ((z.1, z.2.2.2))) else (itl (f_X8_sharpest_B32 v0 v2 v7 z.2.2.1) FU (z.1, z.2.1, (0 : Int32), z.2.2.2)).bind (fun q1436 => some (.inl (q1436.1, q1436.2.1, (z.2.2.1 + (1 : Int32)), q1436.2.2)))
def f_X8_sharpest (v0 : MOv) (v2 : Fn) (v7 : Fn) (v8 : Fn) : Option (Int32 × MOv × Fn × Fn) :=
  (f_X8_gather ((0 : Int32), v0.2.1, v0.2.2.1, v0.2.2.2.1, v0.2.2.2.2.1, v0.2.2.2.2.2) v7 v2).bind (fun q1427 => (itl (f_X8_sharpest_B19 q1427.1 v2 q1427.2) FU ((-1 : Int32), (0 : Int32), (0 : Int32), v8)).bind (fun q1438 => some (q1438.1, q1427.1, q1427.2, q1438.2)))
def f_X8_needs (v0 : MOv) (v2 : Fn) : Option (Int32 × MOv) :=
  (f_X8_needsOf v2).bind (fun q1441 => some (q1441, ((0 : Int32), v0.2.1, v0.2.2.1, v0.2.2.2.1, v0.2.2.2.2.1, v0.2.2.2.2.2)))
def f_X8_bestArms_B52_b120 (v0 : MOv) (v2 : Fn) (v7 : Fn) (v8 : Fn) (x1 : Int32) (x2 : Int32) (x3 : Int32) (x5 : Int32) (x6 : Int32) (y0 : Int32) : Option ((Int32 × Int32 × Int32 × Fn) ⊕ ((Int32 × Int32 × Fn))) :=
  some (.inl (x3, y0, (x6 + (1 : Int32)), v8))
def f_X8_bestArms_B52_b107 (v0 : MOv) (v2 : Fn) (v7 : Fn) (v8 : Fn) (x1 : Int32) (x2 : Int32) (x4 : Int32) (x5 : Int32) (x6 : Int32) (x7 : Int32) (x8 : Int32) (y0 : Int32) : Option ((Int32 × Int32 × Int32 × Fn) ⊕ ((Int32 × Int32 × Fn))) :=
  if x8 = 0 then f_X8_bestArms_B52_b120 v0 v2 v7 v8 x1 x2 y0 x5 x6 x4 else f_X8_bestArms_B52_b120 v0 v2 v7 v8 x1 x2 y0 x5 x6 x7
def f_X8_bestArms_B52_b88 (v0 : MOv) (v2 : Fn) (v7 : Fn) (v8 : Fn) (x1 : Int32) (x2 : Int32) (x3 : Int32) (x4 : Int32) (x5 : Int32) (x6 : Int32) (x7 : Int32) (y0 : Bool) : Option ((Int32 × Int32 × Int32 × Fn) ⊕ ((Int32 × Int32 × Fn))) :=
  if (b2i y0) = 0 then f_X8_bestArms_B52_b107 v0 v2 v7 v8 x1 x2 x4 x5 x6 x7 (b2i y0) x3 else f_X8_bestArms_B52_b107 v0 v2 v7 v8 x1 x2 x4 x5 x6 x7 (b2i y0) (((100 : Int32) * x5) + x6)
def f_X8_bestArms_B52_b83 (v0 : MOv) (v2 : Fn) (v7 : Fn) (v8 : Fn) (x1 : Int32) (x2 : Int32) (x3 : Int32) (x4 : Int32) (x5 : Int32) (x6 : Int32) (x7 : Int32) : Option ((Int32 × Int32 × Int32 × Fn) ⊕ ((Int32 × Int32 × Fn))) :=
  f_X8_bestArms_B52_b88 v0 v2 v7 v8 x1 x2 x3 x4 x5 x6 x7 true
def f_X8_bestArms_B52 (v0 : MOv) (v2 : Fn) (v7 : Fn) (x1 : Int32) (x2 : Int32) (x5 : Int32) (z : Int32 × Int32 × Int32 × Fn) : Option ((Int32 × Int32 × Int32 × Fn) ⊕ ((Int32 × Int32 × Fn))) :=
  if (20 : Int32) < z.2.2.1 then some (.inr ((z.1, z.2.1, z.2.2.2))) else (f_X8_worst v0 v7 z.2.2.2 x1 x2 x5 z.2.2.1).bind (fun q1453 => if z.1 = (-1 : Int32) then f_X8_bestArms_B52_b83 v0 v2 v7 q1453.2 x1 x2 z.1 z.2.1 x5 z.2.2.1 q1453.1 else if z.2.1 ≤ q1453.1 then f_X8_bestArms_B52_b88 v0 v2 v7 q1453.2 x1 x2 z.1 z.2.1 x5 z.2.2.1 q1453.1 false else f_X8_bestArms_B52_b83 v0 v2 v7 q1453.2 x1 x2 z.1 z.2.1 x5 z.2.2.1 q1453.1)
def f_X8_bestArms_B42 (v0 : MOv) (v2 : Fn) (v7 : Fn) (x1 : Int32) (x2 : Int32) (z : Int32 × Int32 × Int32 × Fn) : Option ((Int32 × Int32 × Int32 × Fn) ⊕ ((Int32 × Fn))) :=
  if (20 : Int32) < z.2.2.1 then some (.inr ((z.1, z.2.2.2))) else (itl (f_X8_bestArms_B52 v0 v2 v7 x1 x2 z.2.2.1) FU (z.1, z.2.1, (1 : Int32), z.2.2.2)).bind (fun q1459 => some (.inl (q1459.1, q1459.2.1, (z.2.2.1 + (1 : Int32)), q1459.2.2)))
def f_X8_bestArms_b18 (v0 : MOv) (v2 : Fn) (v7 : Fn) (v8 : Fn) (x1 : Int32) (x2 : Int32) (y0 : Bool) : Option (Int32 × MOv × Fn × Fn) :=
  (f_X8_refused v0 (b2i y0)).bind (fun q1451 => if (b2i q1451.1) = 0 then (f_X8_gather q1451.2 v7 v2).bind (fun q1452 => (itl (f_X8_bestArms_B42 q1452.1 v2 q1452.2 x1 x2) FU ((-1 : Int32), (0 : Int32), (1 : Int32), v8)).bind (fun q1461 => some (q1461.1, q1452.1, q1452.2, q1461.2))) else some ((0 : Int32), q1451.2, v7, v8))
def f_X8_bestArms (v0 : MOv) (v2 : Fn) (v7 : Fn) (v8 : Fn) (p1 : Int32) (p2 : Int32) : Option (Int32 × MOv × Fn × Fn) :=
  (f_X8_isWeighing v2 p1 p2).bind (fun q1450 => if (b2i q1450) = 0 then f_X8_bestArms_b18 v0 v2 v7 v8 p1 p2 true else f_X8_bestArms_b18 v0 v2 v7 v8 p1 p2 false)
def f_X8_weighs_b28 (v0 : MOv) (v3 : Fn) (x1 : Int32) (y0 : Int32) : Option (Bool × Fn) :=
  (f_X8_isCoin v3 x1).bind (fun q1473 => if (b2i q1473) = 0 then some (false, v3) else if y0 = (-1 : Int32) then some (false, v3) else (f_X8_canWeigh v3 ((1 : Int32) <<< (x1 &&& 31)) y0).bind (fun q1474 => if (b2i q1474) = 0 then some (false, v3) else (f_X8_weighOn v3 ((1 : Int32) <<< (x1 &&& 31)) y0).bind (fun q1475 => if q1475.1 < 0 then some (false, q1475.2) else some (true, q1475.2))))
def f_X8_weighs (v0 : MOv) (v3 : Fn) (p1 : Int32) (p2 : Int32) : Option (Bool × Fn) :=
  if p2 = (99 : Int32) then f_X8_weighs_b28 v0 v3 p1 (0 : Int32) else (f_X8_isCoin v3 p2).bind (fun q1472 => if (b2i q1472) = 0 then f_X8_weighs_b28 v0 v3 p1 (-1 : Int32) else f_X8_weighs_b28 v0 v3 p1 ((1 : Int32) <<< (p2 &&& 31)))
def f_X8_command_b186 (v0 : MOv) (v3 : Fn) (y0 : Bool) : Option (Bool × Fn) :=
  (f_X8_told v3 y0).bind (fun q1533 => if q1533.1 = (1 : Int32) then some (true, q1533.2) else some (false, q1533.2))
def f_X8_command_b137 (v0 : MOv) (v3 : Fn) (y0 : Bool) (y1 : Int32) : Option (Bool × Fn) :=
  (f_X8_accuseOn v3 y1 y0).bind (fun q1539 => if q1539.1 = (1 : Int32) then some (true, q1539.2) else some (false, q1539.2))
def f_X8_command (v0 : MOv) (v3 : Fn) (p1 : Int32) (p2 : Int32) : Option (Bool × Fn) :=
  if p1 = (1 : Int32) then (f_X8_weighs v0 v3 (p2 / (100 : Int32)) (p2 - p2 / (100 : Int32) * (100 : Int32))).bind (fun q1548 => some (q1548.1, q1548.2)) else if p1 = (2 : Int32) then (f_X8_isArms (p2 / (100 : Int32)) (p2 - p2 / (100 : Int32) * (100 : Int32))).bind (fun q1544 => if (b2i q1544) = 0 then some (false, v3) else (f_X8_armsOn v3 (p2 / (100 : Int32)) (p2 - p2 / (100 : Int32) * (100 : Int32))).bind (fun q1545 => if q1545.1 < 0 then some (false, q1545.2) else some (true, q1545.2))) else if p1 = (3 : Int32) then if (2 : Int32) ≤ (p2 - p2 / (100 : Int32) * (100 : Int32)) then some (false, v3) else (f_X8_isCoin v3 (p2 / (100 : Int32))).bind (fun q1538 => if (b2i q1538) = 0 then some (false, v3) else if (p2 - p2 / (100 : Int32) * (100 : Int32)) = (1 : Int32) then f_X8_command_b137 v0 v3 true (p2 / (100 : Int32)) else f_X8_command_b137 v0 v3 false (p2 / (100 : Int32))) else if p1 = (4 : Int32) then if (p2 - p2 / (1000 : Int32) * (1000 : Int32)) = 0 then if (3 : Int32) ≤ (p2 / (1000 : Int32)) then some (false, v3) else if ((v3 (1 : Int32).toNatClampNeg) - (v3 (1 : Int32).toNatClampNeg) / (3 : Int32) * (3 : Int32)) = (p2 / (1000 : Int32)) then f_X8_command_b186 v0 v3 true else f_X8_command_b186 v0 v3 false else some (false, v3) else if p1 = (5 : Int32) then if p2 = 0 then if (v3 (4 : Int32).toNatClampNeg) ≤ 0 then some (false, v3) else (f_X8_forgetOn v3).bind (fun q1529 => if q1529.1 < 0 then some (false, q1529.2) else some (true, q1529.2)) else some (false, v3) else if p1 = (6 : Int32) then if (100 : Int32) ≤ p2 then some (false, v3) else (f_X8_leftOf v3).bind (fun q1526 => if p2 < q1526 then some (false, v3) else some (true, v3)) else if p1 = (7 : Int32) then if (10 : Int32) ≤ (p2 - p2 / (100 : Int32) * (100 : Int32)) then some (false, v3) else (f_X8_isCoin v3 (p2 / (100 : Int32))).bind (fun q1521 => if (b2i q1521) = 0 then some (false, v3) else (f_X8_coinOf v3 (p2 / (100 : Int32))).bind (fun q1522 => if q1522 = (p2 - p2 / (100 : Int32) * (100 : Int32)) then some (true, v3) else some (false, v3))) else if p1 = (8 : Int32) then if (10 : Int32) ≤ p2 then some (false, v3) else (f_X8_pansOf v3).bind (fun q1518 => if q1518 = p2 then some (true, v3) else some (false, v3)) else if p1 = (9 : Int32) then if (10 : Int32) ≤ p2 then some (false, v3) else (f_X8_needsOf v3).bind (fun q1515 => if p2 < q1515 then some (false, v3) else some (true, v3)) else some (false, v3)
def f_X8_runScript_B6 (v0 : MOv) (v2 : Fn) (v3 : Fn) (x1 : Int32) (x2 : Int64) (z : Int64 × Int32) : Option ((Int64 × Int32) ⊕ ((Int64))) :=
  if x1 ≤ z.2 then some (.inr ((z.1))) else if (3 : Int32) ≤ z.2 then some (.inr ((z.1))) else some (.inl ((z.1 * (100000 : Int64)), (z.2 + (1 : Int32))))
def f_X8_runScript_B86_b111 (v0 : MOv) (v2 : Fn) (v3 : Fn) (x1 : Int32) (x2 : Int64) (x4 : Int64) (x6 : Int32) (x7 : Int32) : Option ((Int64 × Int32 × Fn) ⊕ ((Int32 × Fn) ⊕ (Fn))) :=
  (f_X8_command v0 v3 (x7 / (10000 : Int32)) (x7 - x7 / (10000 : Int32) * (10000 : Int32))).bind (fun q1568 => if (b2i q1568.1) = 0 then some (.inr (.inl (x6, q1568.2))) else some (.inl (x4, (x6 + (1 : Int32)), q1568.2)))
def f_X8_runScript_B86 (v0 : MOv) (v2 : Fn) (x1 : Int32) (x2 : Int64) (z : Int64 × Int32 × Fn) : Option ((Int64 × Int32 × Fn) ⊕ ((Int32 × Fn) ⊕ (Fn))) :=
  if x1 ≤ z.2.1 then some (.inr (.inr (z.2.2))) else if (z.1 / (100000 : Int64)) = 0 then none else f_X8_runScript_B86_b111 v0 v2 z.2.2 x1 x2 (z.1 / (100000 : Int64)) z.2.1 (((x2 / (z.1 / (100000 : Int64))) - (x2 / (z.1 / (100000 : Int64))) / (100000 : Int64) * (100000 : Int64)).toInt32)
def f_X8_runScript_b62 (v0 : MOv) (v2 : Fn) (v3 : Fn) (x1 : Int32) (x2 : Int64) (x4 : Int64) (y0 : Bool) : Option (Int32 × MOv × Fn) :=
  (f_X8_refused v0 (b2i y0)).bind (fun q1565 => if (b2i q1565.1) = 0 then (f_X8_copyState 107 107 v2 v3 (0 : Int32) (0 : Int32)).bind (fun q1566 => (itl (f_X8_runScript_B86 q1565.2 v2 x1 x2) FU (x4, (0 : Int32), q1566)).bind (Sum.elim (fun q1571e => some (q1571e.1, q1565.2, q1571e.2)) (fun q1571e => some ((-1 : Int32), q1565.2, q1571e)))) else some ((0 : Int32), q1565.2, v3))
def f_X8_runScript_b61 (v0 : MOv) (v2 : Fn) (v3 : Fn) (x1 : Int32) (x2 : Int64) (x4 : Int64) : Option (Int32 × MOv × Fn) :=
  f_X8_runScript_b62 v0 v2 v3 x1 x2 x4 true
def f_X8_runScript_b32 (v0 : MOv) (v2 : Fn) (v3 : Fn) (x1 : Int32) (x2 : Int64) (x4 : Int64) : Option (Int32 × MOv × Fn) :=
  (f_X8_in (x1.toInt64) (1 : Int64) (3 : Int64)).bind (fun q1564 => if (b2i q1564) = 0 then f_X8_runScript_b61 v0 v2 v3 x1 x2 x4 else (f_X8_in x2 (0 : Int64) (x4 - (1 : Int64))).bind (fun q1573 => if (b2i q1573) = 0 then f_X8_runScript_b61 v0 v2 v3 x1 x2 x4 else f_X8_runScript_b62 v0 v2 v3 x1 x2 x4 false))
def f_X8_runScript (v0 : MOv) (v2 : Fn) (v3 : Fn) (p1 : Int32) (p2 : Int64) : Option (Int32 × MOv × Fn) :=
  (itl (f_X8_runScript_B6 v0 v2 v3 p1 p2) FU ((1 : Int64), (0 : Int32))).bind (fun q1563 => f_X8_runScript_b32 v0 v2 v3 p1 p2 q1563)
def f_X8_turn_b152 (w0 : Fn) (y0 : Bool) (y1 : Int32) : Option (Fn) :=
  (f_X8_accuseOn w0 y1 y0).bind (fun q1592 => some q1592.2)
def f_X8_turn_b90 (w0 : Fn) (y0 : Int32) (y1 : Int32) : Option (Fn) :=
  (f_X8_armsOn w0 y1 y0).bind (fun q1599 => some q1599.2)
def f_X8_turn_b70 (w0 : Fn) (x2 : Int32) (y0 : Int32) : Option (Fn) :=
  if (x2 - x2 / (3 : Int32) * (3 : Int32)) = 0 then f_X8_turn_b90 w0 ((1 : Int32) + ((x2 / (32 : Int32)) - (x2 / (32 : Int32)) / (20 : Int32) * (20 : Int32))) y0 else f_X8_turn_b90 w0 (10 : Int32) y0
def f_X8_turn_b48 (w0 : Fn) (x2 : Int32) (x3 : Int32) (x5 : Int32) (x6 : Int32) : Option (Fn) :=
  if x3 = 0 then if (x2 - x2 / (3 : Int32) * (3 : Int32)) = 0 then f_X8_turn_b70 w0 x2 ((1 : Int32) + (x2 - x2 / (20 : Int32) * (20 : Int32))) else f_X8_turn_b70 w0 x2 (10 : Int32) else if x3 = (1 : Int32) then if (w0 (4 : Int32).toNatClampNeg) ≤ 0 then some w0 else (f_X8_forgetOn w0).bind (fun q1596 => some q1596.2) else if x3 = (2 : Int32) then (f_X8_isCoin w0 (x2 - x2 / (12 : Int32) * (12 : Int32))).bind (fun q1591 => if (b2i q1591) = 0 then some w0 else if ((x2 / (16 : Int32)) - (x2 / (16 : Int32)) / (2 : Int32) * (2 : Int32)) = (1 : Int32) then f_X8_turn_b152 w0 true (x2 - x2 / (12 : Int32) * (12 : Int32)) else f_X8_turn_b152 w0 false (x2 - x2 / (12 : Int32) * (12 : Int32))) else (f_X8_canWeigh w0 x5 x6).bind (fun q1588 => if (b2i q1588) = 0 then some w0 else (f_X8_weighOn w0 x5 x6).bind (fun q1589 => some q1589.2))
def f_X8_turn_b29 (w0 : Fn) (x2 : Int32) (x3 : Int32) (x4 : Int32) (x5 : Int32) : Option (Fn) :=
  f_X8_turn_b48 w0 x2 x3 x5 ((((x2 / (4096 : Int32)) - (x2 / (4096 : Int32)) / (4096 : Int32) * (4096 : Int32)) &&& x4) &&& (x5 ^^^ (-1 : Int32)))
def f_X8_turn (w0 : Fn) (p1 : Int32) : Option (Fn) :=
  f_X8_turn_b29 w0 (p1 / (8 : Int32)) (p1 - p1 / (8 : Int32) * (8 : Int32)) (((1 : Int32) <<< ((w0 (0 : Int32).toNatClampNeg) &&& 31)) - (1 : Int32)) (((p1 / (8 : Int32)) - (p1 / (8 : Int32)) / (4096 : Int32) * (4096 : Int32)) &&& (((1 : Int32) <<< ((w0 (0 : Int32).toNatClampNeg) &&& 31)) - (1 : Int32)))
def f_X8_simulate_B45 (v0 : MOv) (v2 : Fn) (x3 : Int32) (z : Int64 × Int32 × Fn) : Option ((Int64 × Int32 × Fn) ⊕ ((Fn))) :=
  if x3 ≤ z.2.1 then some (.inr ((z.2.2))) else (f_X8_turn z.2.2 (((((z.1 * (6364136223846793005 : Int64)) + (1442695040888963407 : Int64)).toUInt64 >>> ((33 : Int32).toInt64.toUInt64 &&& Int64.toUInt64 63)).toInt64).toInt32)).bind (fun q1616 => some (.inl (((z.1 * (6364136223846793005 : Int64)) + (1442695040888963407 : Int64)), (z.2.1 + (1 : Int32)), q1616)))
def f_X8_simulate_b18 (v0 : MOv) (v2 : Fn) (v3 : Fn) (x1 : Int64) (x3 : Int32) (y0 : Bool) : Option (Int32 × MOv × Fn) :=
  (f_X8_refused v0 (b2i y0)).bind (fun q1614 => if (b2i q1614.1) = 0 then (f_X8_copyState 107 107 v2 v3 (0 : Int32) (0 : Int32)).bind (fun q1615 => (itl (f_X8_simulate_B45 q1614.2 v2 x3) FU (x1, (0 : Int32), q1615)).bind (fun q1618 => (f_X8_leftOf q1618).bind (fun q1619 => some ((((1000 : Int32) * (q1618 (4 : Int32).toNatClampNeg)) + q1619), q1614.2, q1618)))) else some ((0 : Int32), q1614.2, v3))
def f_X8_simulate (v0 : MOv) (v2 : Fn) (v3 : Fn) (p1 : Int64) (p2 : Int32) : Option (Int32 × MOv × Fn) :=
  (f_X8_in (p2.toInt64) (1 : Int64) (60 : Int64)).bind (fun q1613 => if (b2i q1613) = 0 then f_X8_simulate_b18 v0 v2 v3 p1 p2 true else f_X8_simulate_b18 v0 v2 v3 p1 p2 false)
def f_X8_save_b16 (v0 : MOv) (v2 : Fn) (v5 : Fn) (v6 : Fn) (x1 : Int32) (y0 : Bool) : Option (Int32 × MOv × Fn × Fn) :=
  (f_X8_refused v0 (b2i y0)).bind (fun q1633 => if (b2i q1633.1) = 0 then (f_X8_copyState 107 214 v2 v5 (0 : Int32) ((107 : Int32) * x1)).bind (fun q1634 => if x1 < 0 ∨ 2 ≤ x1.toNatClampNeg then none else (f_X8_leftOf v2).bind (fun q1636 => some (q1636, q1633.2, q1634, (upd v6 x1.toNatClampNeg (vp_nar .boolean (1 : Int32)))))) else some ((0 : Int32), q1633.2, v5, v6))
def f_X8_save (v0 : MOv) (v2 : Fn) (v5 : Fn) (v6 : Fn) (p1 : Int32) : Option (Int32 × MOv × Fn × Fn) :=
  (f_X8_in (p1.toInt64) (0 : Int64) (1 : Int64)).bind (fun q1632 => if (b2i q1632) = 0 then f_X8_save_b16 v0 v2 v5 v6 p1 true else f_X8_save_b16 v0 v2 v5 v6 p1 false)
def f_X8_restore_b29 (v0 : MOv) (v2 : Fn) (v5 : Fn) (v6 : Fn) (x1 : Int32) (y0 : Int32) : Option (Int32 × MOv × Fn) :=
  (f_X8_refused v0 y0).bind (fun q1651 => if (b2i q1651.1) = 0 then (f_X8_copyState 214 107 v5 v2 ((107 : Int32) * x1) (0 : Int32)).bind (fun q1652 => (f_X8_leftOf q1652).bind (fun q1653 => some (q1653, (q1651.2.1, q1651.2.2.1, (0 : Int32), q1651.2.2.2.2.1, q1651.2.2.2.2.2.1, q1651.2.2.2.2.2.2), q1652))) else some ((0 : Int32), q1651.2, v2))
def f_X8_restore (v0 : MOv) (v2 : Fn) (v5 : Fn) (v6 : Fn) (p1 : Int32) : Option (Int32 × MOv × Fn) :=
  (f_X8_in (p1.toInt64) (0 : Int64) (1 : Int64)).bind (fun q1649 => if (b2i q1649) = 0 then f_X8_restore_b29 v0 v2 v5 v6 p1 (1 : Int32) else if p1 < 0 ∨ 2 ≤ p1.toNatClampNeg then none else if (v6 p1.toNatClampNeg) = 0 then f_X8_restore_b29 v0 v2 v5 v6 p1 (2 : Int32) else f_X8_restore_b29 v0 v2 v5 v6 p1 (0 : Int32))
