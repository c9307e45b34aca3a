/-! ===== String constants: fields, bytes, receivers ===== -/
section GWS
variable {p : Program} {l : Launch} {e : Env} {R : Room} {s : State} {m : MethodId} {args : Array Value} {below : List Frame} {meth : Method} {c : Code} {cells slots : Nat} {Q : State → Prop} {A : Nat → Prop} {D : va_G} {cy : Nat → ClassId} {ad : (Nat → Nat) × (Nat → Nat)} {cc : ByteArray} {nL : Nat} {own : String} {pc : Nat} {lv : List (Nat × Value)} {st rest : List Value} {gs : List va_W}
theorem g_scoder (X : gK p s m args meth c A D cy ad cc nL own) {index i : Nat} (d : decode cc pc = .ok (.getfield index, 3)) (hi : i < 5) (hlink : Cond.fieldLink own index "java/lang/String" "coder" "B" ∈ wG) (K : GW p l e R s m args below meth c A D nL cells slots Q (pc + 3) lv (.int 0 :: st) gs) : GW p l e R s m args below meth c A D nL cells slots Q pc lv (.ref (ad.1 i) :: st) gs := fun H locs ls hP hD hS hl =>
  vk_getf X.1 X.2.1 (X.2.2.2.2.2.2.2.2.1 i hi).2.1 hS X.2.2.2.1 (X.2.2.2.2.1 _ hlink) (fun _ h => h) d (K H locs ls hP hD hS hl)
theorem g_svalue (X : gK p s m args meth c A D cy ad cc nL own) {index i : Nat} (d : decode cc pc = .ok (.getfield index, 3)) (hi : i < 5) (hlink : Cond.fieldLink own index "java/lang/String" "value" "[B" ∈ wG) (K : GW p l e R s m args below meth c A D nL cells slots Q (pc + 3) lv (.ref (ad.2 i) :: st) gs) : GW p l e R s m args below meth c A D nL cells slots Q pc lv (.ref (ad.1 i) :: st) gs := fun H locs ls hP hD hS hl =>
  vk_getf X.1 X.2.1 (X.2.2.2.2.2.2.2.2.1 i hi).2.2.1 hS X.2.2.2.1 (X.2.2.2.2.1 _ hlink) (fun _ h => h) d (K H locs ls hP hD hS hl)
theorem g_scompact (X : gK p s m args meth c A D cy ad cc nL own) {index : Nat} (d : decode cc pc = .ok (.getstatic index, 3)) (hlink : Cond.fieldLink own index "java/lang/String" "COMPACT_STRINGS" "Z" ∈ wG) (K : GW p l e R s m args below meth c A D nL cells slots Q (pc + 3) lv (.int 1 :: st) gs) : GW p l e R s m args below meth c A D nL cells slots Q pc lv st gs := fun H locs ls hP hD hS hl =>
  va_gets X.1 X.2.1 X.2.2.2.2.2.2.2.2.2.2.1 hS X.2.2.2.1 (X.2.2.2.2.1 _ hlink) (fun _ h => h) d (K H locs ls hP hD hS hl)
theorem g_slen (X : gK p s m args meth c A D cy ad cc nL own) {i : Nat} (d : decode cc pc = .ok (.arraylength, 1)) (hi : i < 5) (K : GW p l e R s m args below meth c A D nL cells slots Q (pc + 1) lv (.int (Int32.ofNat (stB i).length) :: st) gs) : GW p l e R s m args below meth c A D nL cells slots Q pc lv (.ref (ad.2 i) :: st) gs := fun H locs ls hP hD hS hl => by
  obtain ⟨cell, h1, h2, h3, h4, h5, h6, h7⟩ := (X.2.2.2.2.2.2.2.2.1 i hi).2.2.2.kept hS.2.1
  exact W.alen X.1 X.2.1 h1 h2 h5 rfl rfl d (K H locs ls hP hD hS hl)
theorem g_sbaload (X : gK p s m args meth c A D cy ad cc nL own) {i : Nat} {k : Int32} (d : decode cc pc = .ok (.baload, 1)) (hi : i < 5) (hin : ¬ (k < 0 ∨ (stB i).length ≤ k.toNatClampNeg)) (K : GW p l e R s m args below meth c A D nL cells slots Q (pc + 1) lv (.int ((stB i).getD k.toNatClampNeg 0) :: st) gs) : GW p l e R s m args below meth c A D nL cells slots Q pc lv (.int k :: .ref (ad.2 i) :: st) gs := fun H locs ls hP hD hS hl => by
  obtain ⟨cell, h1, h2, h3, h4, h5, h6, h7⟩ := (X.2.2.2.2.2.2.2.2.1 i hi).2.2.2.kept hS.2.1
  have hk : k.toNatClampNeg < (stB i).length := Nat.lt_of_not_le (fun z => hin (Or.inr z))
  exact W.bald X.1 X.2.1 h1 h2 h3 (fun z => z.elim (fun z => hin (Or.inl z)) (fun z => by omega)) (h6 _ hk) rfl rfl d (K H locs ls hP hD hS hl)
theorem g_ldcS (X : gK p s m args meth c A D cy ad cc nL own) {index : Nat} (i : Nat) (hi : i < 28) (ho : stO i = own) (hk : stK i = index) (d : decode cc pc = .ok (.ldc index, 2)) (K : GW p l e R s m args below meth c A D nL cells slots Q (pc + 2) lv (.ref (ad.1 i) :: st) gs) : GW p l e R s m args below meth c A D nL cells slots Q pc lv st gs := fun H locs ls hP hD hS hl =>
  va_ldcS X.1 X.2.1 X.2.2.2.1 (ho ▸ hk ▸ X.2.2.2.2.2.2.2.2.2.1 i hi) d (K H locs ls hP hD hS hl)
theorem g_callVS (X : gK p s m args meth c A D cy ad cc nL own) {index : Nat} {y : MethodName} {bytes : ByteArray} {maxL : Nat} {ret : Option FieldType} {rm : Room} {As : List Value} {gc gc' gs' : List va_W} {rv : Option Value} {i : Nat} (hi : i < 5) (d : decode cc pc = .ok (.invokevirtual index, 3)) (hM : CM l y bytes maxL ret rm D cy ad (.ref (ad.1 i) :: As) gc rv gc') (hm : mF y bytes maxL ret As.length) (hv : mFV y) (hlink : Cond.methodLink own index y ∈ wG) (hR : rm.frames + 1 ≤ R.frames ∧ 8 + (maxL + 11) + rm.locals ≤ R.locals ∧ cells + rm.cells ≤ R.cells ∧ slots + rm.slots ≤ R.slots) (r4 : "java/lang/String" = y.cls)
    (is : List Nat) (gr : List va_W) (hp : is.Perm (List.range gs.length)) (h1 : is.filterMap (fun i => gs[i]?) = gc ++ gr) (hp' : is.Perm (List.range gs'.length)) (h2 : is.filterMap (fun i => gs'[i]?) = gc' ++ gr) (hW : (rest.map fun v => v.category).sum ≤ 8) (hst : st = As.reverse ++ .ref (ad.1 i) :: rest) (K : GW p l e R s m args below meth c A D nL (cells + rm.cells) (slots + rm.slots) Q (pc + 3) lv (rv.toList ++ rest) gs') : GW p l e R s m args below meth c A D nL cells slots Q pc lv st gs := by
  intro H locs ls hP hD hS hl
  subst hst
  have q1 := gp_pick hp h1
  have q2 := gp_pick hp' h2
  obtain ⟨cell, e1, e2, e3, -⟩ := (X.2.2.2.2.2.2.2.2.1 i hi).1.kept hS.2.1
  have hr := va_runV (g := F0 m pc ls (As.reverse ++ .ref (ad.1 i) :: rest)) (rest := rest) (R := R) (cells := cells) (slots := slots) (below := below) (meth := meth) (e := e) (locs := locs) (n := As.length) (C := y.cls) (index := index) (bytes := bytes) (maxL := maxL) (ret := ret) ⟨X.1, X.2.1, X.2.2.1, X.2.2.2.1, X.2.2.2.2.1⟩ (hM H.size)
    ⟨callB_of As.length X.2.2.2.2.1 (gW_good hm.1) rfl rfl rfl (X.2.2.2.2.1 _ hm.2.1) (X.2.2.2.2.1 _ hlink) hm.2.2 ⟨hR.1, hR.2.1⟩, X.2.2.2.2.1 _ hv.1, X.2.2.2.2.1 _ hv.2⟩
    ⟨cmP_blind, ⟨cell, e1, e2, r4 ▸ e3⟩, g_pre X q1 hP hD hS _⟩ rfl rfl hl.1 rfl (lv_room hW) d ⟨hR.2.2.1, hR.2.2.2⟩
  exact g_back (y := y) (av := .ref (ad.1 i) :: As) (g := F0 m pc ls (As.reverse ++ .ref (ad.1 i) :: rest)) X q1 q2.symm hP hD hS hl hr K
end GWS
theorem lks_38 : Cond.fieldLink RJ0 38 "java/lang/String" "COMPACT_STRINGS" "Z" ∈ wG := wG_in 401 (by decide +kernel) (by decide +kernel)
theorem lks_15 : Cond.fieldLink RJ0 15 "java/lang/String" "coder" "B" ∈ wG := wG_in 908 (by decide +kernel) (by decide +kernel)
theorem lks_9 : Cond.fieldLink RJ0 9 "java/lang/String" "value" "[B" ∈ wG := wG_in 909 (by decide +kernel) (by decide +kernel)
