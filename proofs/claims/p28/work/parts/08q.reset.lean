/-! ===== a new table ===== -/
def z107 (r : Fn) : Fn := fun j => if j < 107 then 0 else r j
theorem clear_eq (r : Fn) : f_X8_clear r = some (upd (upd (upd (z107 r) 0 (9 : Int32)) 2 (10 : Int32)) 3 (10 : Int32)) := by
  unfold f_X8_clear
  have hl := itl_for (f := f_X8_clear_B2) (fun i => (i3 i, fun j => if j < i then (fun _ => (0 : Int32)) j else r j)) 107 (e := fun j => if j < 107 then (fun _ => (0 : Int32)) j else r j) (by decide) (fun i hi => by
    unfold f_X8_clear_B2
    rw [if_neg (by show ¬ i3 107 ≤ i3 i; rw [i3_le (by decide) (by omega)]; omega), if_neg (i3_in hi (by decide)), i3_nat (by omega)]
    show some (Sum.inl (i3 i + i3 1, upd (fun j => if j < i then (fun _ => (0 : Int32)) j else r j) i ((fun _ => (0 : Int32)) i))) = _
    rw [i3_add, upd_if]) (by
    unfold f_X8_clear_B2
    exact if_pos (by decide : (107 : Int32) ≤ i3 107))
  rw [if0] at hl
  have hl' : itl f_X8_clear_B2 FU ((0 : Int32), r) = _ := hl
  rw [hl', Option.bind_some]
  rfl
theorem reset_eq (tb : TBv) (su r : Fn) : ∃ tb' su' r', f_X4_reset tb su = some (tb', su') ∧ f_X8_clear r = some r' ∧ TabR 9 0 tb' su' r' := by
  obtain ⟨su', e1, e2⟩ := suspectAll_eq su (c := 9) (by decide)
  refine ⟨((9 : Int32), (0 : Int32), (10 : Int32), (10 : Int32), (0 : Int32), (0 : Int32), (0 : Int32), tb.2.2.2.2.2.2.2), su', _, ?_, clear_eq r, ⟨⟨by decide, by decide, ⟨0, by decide, rfl, rfl⟩, rfl, rfl⟩, ⟨rfl, rfl, rfl, rfl, rfl, rfl, rfl⟩, ⟨fun i hi => absurd hi (Nat.not_lt_zero i), fun i hi => absurd hi (Nat.not_lt_zero i)⟩, by rw [PR_0]; exact e2, fun i hi => absurd hi (Nat.not_lt_zero i)⟩⟩
  unfold f_X4_reset f_X4_layOut
  have e1' : f_X3_suspectAll su (9 : Int32) = _ := e1
  rw [e1']
  rfl
