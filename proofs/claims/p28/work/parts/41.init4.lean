/-! The constructor of State, and the reference's -/
set_option maxHeartbeats 1000000 in
set_option maxRecDepth 100000 in
theorem c_X4_init (l : Launch) (dC : Nat → ClassId) (dI : Nat → Nat → Nat) (h0 : Nat) (sz : Nat) : Met l yX4_init wsX4_init ({ frames := 1, cells := 10, slots := 252, locals := 12 } : Room) (va_Pc [.ref h0] (fun U => U.heap.size = sz ∧ va_P (dC, dI) vwCl [(h0, .inr (4, [.null, .null, .null, .null, .null, .null, .null, .null, .null, .null, .int 0, .int 0, .int 0]))] U.heap ∧ va_K (dC, dI) vwCl [] U ∧ va_D (fun _ => True) [(h0, .inr (4, [.null, .null, .null, .null, .null, .null, .null, .null, .null, .null, .int 0, .int 0, .int 0]))])) (va_Qv (fun _ : Unit => True) (fun _ t => ∃ (cA : ClassId) (ad : Nat → Nat), ad 0 = h0 ∧ va_P (dC, dI) vwCl (stB cA ad) t.heap ∧ va_K (dC, dI) vwCl [(cA, .int)] t ∧ va_D (va_A [(h0, .inr (4, [.null, .null, .null, .null, .null, .null, .null, .null, .null, .null, .int 0, .int 0, .int 0]))] sz) (stB cA ad)) (va_A [(h0, .inr (4, [.null, .null, .null, .null, .null, .null, .null, .null, .null, .null, .int 0, .int 0, .int 0]))] sz)) 10 252 (va_A [(h0, .inr (4, [.null, .null, .null, .null, .null, .null, .null, .null, .null, .null, .int 0, .int 0, .int 0]))] sz) := by
  refine Met.ofW (cc := cX4_init) (maxL := 2) (ret := none) (by decide) rfl ?_
  intro p e s m args below meth c s₁ B hml hv
  obtain ⟨rfl, hsz, hP, hK, hD0⟩ := hv
  have hx := B.exec
  have hb := B.bytes
  have hr := B.returns
  have hts := atoms_spec (ws := wsX4_init) B.pre
  have hown : s.vm.findClass RX4 = some m.cls := findClass_of_methodNamed B.named
  have hin : meth.name = "<init>" := (name_of_methodNamed B.named B.method).1
  subst hsz
  have hD := hD0.self (sz := s.heap.size)
  generalize hAe : va_A [(h0, .inr (4, [.null, .null, .null, .null, .null, .null, .null, .null, .null, .null, .int 0, .int 0, .int 0]))] s.heap.size = A at hD ⊢
  have hA : ∀ q : Nat, s.heap.size ≤ q → A q := fun q h => by rw [← hAe]; exact Or.inr h
  have hS : va_S A s.heap s.heap [] := va_S.rf
  have hP : va_P (dC, dI) vwCl [(h0, .inr (4, [.null, .null, .null, .null, .null, .null, .null, .null, .null, .null, .int 0, .int 0, .int 0]))] s.heap := hP
  have hl := lv_entry ([.ref h0]) (n := 2) (Nat.le_of_ble_eq_true rfl)
  rw [lg_entry_eq]
  generalize (lg_sl ([.ref h0]) ++ List.replicate (2 - (lg_sl ([.ref h0])).length) Slot.unset).toArray = ls at hl ⊢
  have hl : lv_has ls 2 [(0, .ref h0)] := hl
  refine lv_aload_n hx hb dX4_init_0 rfl (lv_at hl 0 rfl) ?_
  refine W.objInit hx hb hown (hts (.methodLink RX4 3 objectInit) (by decide +kernel)) (hts (.instanceMethod objectInit) (by decide +kernel)) (hts _ (List.mem_of_getElem? (i := 3) rfl)) rfl (by rw [hml]; exact hl.1) rfl dX4_init_1 (Nat.le_of_ble_eq_true rfl) (Nat.le_of_ble_eq_true rfl) ?_
  refine W.eq (g2 := F0 m 4 ls []) rfl ?_
  refine lv_aload_n hx hb dX4_init_4 rfl (lv_at hl 0 rfl) ?_
  refine lv_bipush (v := 6) hx hb dX4_init_5 (by decide) ?_
  have hc5 : 0 + 1 ≤ 10 := by decide
  have hs5 : 0 + 6 ≤ 252 := by decide
  refine va_newa (atype := .int) (ty := .int) (a0 := (6, .inl (fun _ => 0))) (N' := 6) hx hb (hts (.arrayClass .int) (by decide +kernel)) rfl hK hP hD hS hA (fun _ => rfl) (by decide) (by decide) (by decide) hc5 hs5 dX4_init_7 (fun q5 k5 H hK hP hD hS => ?_)
  have hK : va_K (dC, dI) vwCl [(k5, .int)] s := hK
  have hP : va_P (dC, dI) vwCl ([(h0, .inr (4, [.null, .null, .null, .null, .null, .null, .null, .null, .null, .null, .int 0, .int 0, .int 0])), (q5, .inl (k5, 6, .inl (fun _ => 0)))]) H := hP
  have hD : va_D A ([(h0, .inr (4, [.null, .null, .null, .null, .null, .null, .null, .null, .null, .null, .int 0, .int 0, .int 0])), (q5, .inl (k5, 6, .inl (fun _ => 0)))]) := hD
  refine W.widen (k := 1) (n := 6) (by decide) (by decide) ?_
  refine va_putF (D := (dC, dI)) (ci := 4) (v := .ref q5) (ty := .array .int) (C := RX4) (T := TX4) (N := 13) hx hb hts (by decide +kernel) tyX4 tyX4_ok nmX4 hown hK hP hD hS 0 rfl rfl 0 (by decide) (hts (.fieldLink RX4 9 "ConkerHeirs$State" "strings" "[I") (by decide +kernel)) (fun _ h9 => h9) rfl hin rfl (by decide +kernel) rfl rfl (Nat.le_of_ble_eq_true rfl) dX4_init_9 (fun H locs hP hD hS => ?_)
  have hP : va_P (dC, dI) vwCl ([(h0, .inr (4, [.ref q5, .null, .null, .null, .null, .null, .null, .null, .null, .null, .int 0, .int 0, .int 0])), (q5, .inl (k5, 6, .inl (fun _ => 0)))]) H := hP
  have hD : va_D A ([(h0, .inr (4, [.ref q5, .null, .null, .null, .null, .null, .null, .null, .null, .null, .int 0, .int 0, .int 0])), (q5, .inl (k5, 6, .inl (fun _ => 0)))]) := hD
  refine lv_aload_n hx hb dX4_init_12 rfl (lv_at hl 0 rfl) ?_
  refine lv_bipush (v := 6) hx hb dX4_init_13 (by decide) ?_
  have hc9 : 1 + 1 ≤ 10 := by decide
  have hs9 : 6 + 6 ≤ 252 := by decide
  refine va_newa (atype := .int) (ty := .int) (a0 := (6, .inl (fun _ => 0))) (N' := 6) hx hb (hts (.arrayClass .int) (by decide +kernel)) rfl hK hP hD hS hA (fun _ => rfl) (by decide) (by decide) (by decide) hc9 hs9 dX4_init_15 (fun q9 k9 H hK hP hD hS => ?_)
  have e9 : k5 = k9 := kb_one hK 0 1 rfl rfl
  subst e9
  have hK := hK.sub (tys' := [(k5, .int)]) [0] rfl
  have hP : va_P (dC, dI) vwCl ([(h0, .inr (4, [.ref q5, .null, .null, .null, .null, .null, .null, .null, .null, .null, .int 0, .int 0, .int 0])), (q5, .inl (k5, 6, .inl (fun _ => 0))), (q9, .inl (k5, 6, .inl (fun _ => 0)))]) H := hP
  have hD : va_D A ([(h0, .inr (4, [.ref q5, .null, .null, .null, .null, .null, .null, .null, .null, .null, .int 0, .int 0, .int 0])), (q5, .inl (k5, 6, .inl (fun _ => 0))), (q9, .inl (k5, 6, .inl (fun _ => 0)))]) := hD
  refine W.widen (k := 2) (n := 12) (by decide) (by decide) ?_
  refine va_putF (D := (dC, dI)) (ci := 4) (v := .ref q9) (ty := .array .int) (C := RX4) (T := TX4) (N := 13) hx hb hts (by decide +kernel) tyX4 tyX4_ok nmX4 hown hK hP hD hS 0 rfl rfl 1 (by decide) (hts (.fieldLink RX4 15 "ConkerHeirs$State" "shame" "[I") (by decide +kernel)) (fun _ h9 => h9) rfl hin rfl (by decide +kernel) rfl rfl (Nat.le_of_ble_eq_true rfl) dX4_init_17 (fun H locs hP hD hS => ?_)
  have hP : va_P (dC, dI) vwCl ([(h0, .inr (4, [.ref q5, .ref q9, .null, .null, .null, .null, .null, .null, .null, .null, .int 0, .int 0, .int 0])), (q5, .inl (k5, 6, .inl (fun _ => 0))), (q9, .inl (k5, 6, .inl (fun _ => 0)))]) H := hP
  have hD : va_D A ([(h0, .inr (4, [.ref q5, .ref q9, .null, .null, .null, .null, .null, .null, .null, .null, .int 0, .int 0, .int 0])), (q5, .inl (k5, 6, .inl (fun _ => 0))), (q9, .inl (k5, 6, .inl (fun _ => 0)))]) := hD
  refine lv_aload_n hx hb dX4_init_20 rfl (lv_at hl 0 rfl) ?_
  refine lv_bipush (v := 30) hx hb dX4_init_21 (by decide) ?_
  have hc13 : 2 + 1 ≤ 10 := by decide
  have hs13 : 12 + 30 ≤ 252 := by decide
  refine va_newa (atype := .int) (ty := .int) (a0 := (30, .inl (fun _ => 0))) (N' := 30) hx hb (hts (.arrayClass .int) (by decide +kernel)) rfl hK hP hD hS hA (fun _ => rfl) (by decide) (by decide) (by decide) hc13 hs13 dX4_init_23 (fun q13 k13 H hK hP hD hS => ?_)
  have e13 : k5 = k13 := kb_one hK 0 1 rfl rfl
  subst e13
  have hK := hK.sub (tys' := [(k5, .int)]) [0] rfl
  have hP : va_P (dC, dI) vwCl ([(h0, .inr (4, [.ref q5, .ref q9, .null, .null, .null, .null, .null, .null, .null, .null, .int 0, .int 0, .int 0])), (q5, .inl (k5, 6, .inl (fun _ => 0))), (q9, .inl (k5, 6, .inl (fun _ => 0))), (q13, .inl (k5, 30, .inl (fun _ => 0)))]) H := hP
  have hD : va_D A ([(h0, .inr (4, [.ref q5, .ref q9, .null, .null, .null, .null, .null, .null, .null, .null, .int 0, .int 0, .int 0])), (q5, .inl (k5, 6, .inl (fun _ => 0))), (q9, .inl (k5, 6, .inl (fun _ => 0))), (q13, .inl (k5, 30, .inl (fun _ => 0)))]) := hD
  refine W.widen (k := 3) (n := 42) (by decide) (by decide) ?_
  refine va_putF (D := (dC, dI)) (ci := 4) (v := .ref q13) (ty := .array .int) (C := RX4) (T := TX4) (N := 13) hx hb hts (by decide +kernel) tyX4 tyX4_ok nmX4 hown hK hP hD hS 0 rfl rfl 2 (by decide) (hts (.fieldLink RX4 18 "ConkerHeirs$State" "owner" "[I") (by decide +kernel)) (fun _ h9 => h9) rfl hin rfl (by decide +kernel) rfl rfl (Nat.le_of_ble_eq_true rfl) dX4_init_25 (fun H locs hP hD hS => ?_)
  have hP : va_P (dC, dI) vwCl ([(h0, .inr (4, [.ref q5, .ref q9, .ref q13, .null, .null, .null, .null, .null, .null, .null, .int 0, .int 0, .int 0])), (q5, .inl (k5, 6, .inl (fun _ => 0))), (q9, .inl (k5, 6, .inl (fun _ => 0))), (q13, .inl (k5, 30, .inl (fun _ => 0)))]) H := hP
  have hD : va_D A ([(h0, .inr (4, [.ref q5, .ref q9, .ref q13, .null, .null, .null, .null, .null, .null, .null, .int 0, .int 0, .int 0])), (q5, .inl (k5, 6, .inl (fun _ => 0))), (q9, .inl (k5, 6, .inl (fun _ => 0))), (q13, .inl (k5, 30, .inl (fun _ => 0)))]) := hD
  refine lv_aload_n hx hb dX4_init_28 rfl (lv_at hl 0 rfl) ?_
  refine lv_bipush (v := 30) hx hb dX4_init_29 (by decide) ?_
  have hc17 : 3 + 1 ≤ 10 := by decide
  have hs17 : 42 + 30 ≤ 252 := by decide
  refine va_newa (atype := .int) (ty := .int) (a0 := (30, .inl (fun _ => 0))) (N' := 30) hx hb (hts (.arrayClass .int) (by decide +kernel)) rfl hK hP hD hS hA (fun _ => rfl) (by decide) (by decide) (by decide) hc17 hs17 dX4_init_31 (fun q17 k17 H hK hP hD hS => ?_)
  have e17 : k5 = k17 := kb_one hK 0 1 rfl rfl
  subst e17
  have hK := hK.sub (tys' := [(k5, .int)]) [0] rfl
  have hP : va_P (dC, dI) vwCl ([(h0, .inr (4, [.ref q5, .ref q9, .ref q13, .null, .null, .null, .null, .null, .null, .null, .int 0, .int 0, .int 0])), (q5, .inl (k5, 6, .inl (fun _ => 0))), (q9, .inl (k5, 6, .inl (fun _ => 0))), (q13, .inl (k5, 30, .inl (fun _ => 0))), (q17, .inl (k5, 30, .inl (fun _ => 0)))]) H := hP
  have hD : va_D A ([(h0, .inr (4, [.ref q5, .ref q9, .ref q13, .null, .null, .null, .null, .null, .null, .null, .int 0, .int 0, .int 0])), (q5, .inl (k5, 6, .inl (fun _ => 0))), (q9, .inl (k5, 6, .inl (fun _ => 0))), (q13, .inl (k5, 30, .inl (fun _ => 0))), (q17, .inl (k5, 30, .inl (fun _ => 0)))]) := hD
  refine W.widen (k := 4) (n := 72) (by decide) (by decide) ?_
  refine va_putF (D := (dC, dI)) (ci := 4) (v := .ref q17) (ty := .array .int) (C := RX4) (T := TX4) (N := 13) hx hb hts (by decide +kernel) tyX4 tyX4_ok nmX4 hown hK hP hD hS 0 rfl rfl 3 (by decide) (hts (.fieldLink RX4 21 "ConkerHeirs$State" "hardness" "[I") (by decide +kernel)) (fun _ h9 => h9) rfl hin rfl (by decide +kernel) rfl rfl (Nat.le_of_ble_eq_true rfl) dX4_init_33 (fun H locs hP hD hS => ?_)
  have hP : va_P (dC, dI) vwCl ([(h0, .inr (4, [.ref q5, .ref q9, .ref q13, .ref q17, .null, .null, .null, .null, .null, .null, .int 0, .int 0, .int 0])), (q5, .inl (k5, 6, .inl (fun _ => 0))), (q9, .inl (k5, 6, .inl (fun _ => 0))), (q13, .inl (k5, 30, .inl (fun _ => 0))), (q17, .inl (k5, 30, .inl (fun _ => 0)))]) H := hP
  have hD : va_D A ([(h0, .inr (4, [.ref q5, .ref q9, .ref q13, .ref q17, .null, .null, .null, .null, .null, .null, .int 0, .int 0, .int 0])), (q5, .inl (k5, 6, .inl (fun _ => 0))), (q9, .inl (k5, 6, .inl (fun _ => 0))), (q13, .inl (k5, 30, .inl (fun _ => 0))), (q17, .inl (k5, 30, .inl (fun _ => 0)))]) := hD
  refine lv_aload_n hx hb dX4_init_36 rfl (lv_at hl 0 rfl) ?_
  refine lv_bipush (v := 30) hx hb dX4_init_37 (by decide) ?_
  have hc21 : 4 + 1 ≤ 10 := by decide
  have hs21 : 72 + 30 ≤ 252 := by decide
  refine va_newa (atype := .int) (ty := .int) (a0 := (30, .inl (fun _ => 0))) (N' := 30) hx hb (hts (.arrayClass .int) (by decide +kernel)) rfl hK hP hD hS hA (fun _ => rfl) (by decide) (by decide) (by decide) hc21 hs21 dX4_init_39 (fun q21 k21 H hK hP hD hS => ?_)
  have e21 : k5 = k21 := kb_one hK 0 1 rfl rfl
  subst e21
  have hK := hK.sub (tys' := [(k5, .int)]) [0] rfl
  have hP : va_P (dC, dI) vwCl ([(h0, .inr (4, [.ref q5, .ref q9, .ref q13, .ref q17, .null, .null, .null, .null, .null, .null, .int 0, .int 0, .int 0])), (q5, .inl (k5, 6, .inl (fun _ => 0))), (q9, .inl (k5, 6, .inl (fun _ => 0))), (q13, .inl (k5, 30, .inl (fun _ => 0))), (q17, .inl (k5, 30, .inl (fun _ => 0))), (q21, .inl (k5, 30, .inl (fun _ => 0)))]) H := hP
  have hD : va_D A ([(h0, .inr (4, [.ref q5, .ref q9, .ref q13, .ref q17, .null, .null, .null, .null, .null, .null, .int 0, .int 0, .int 0])), (q5, .inl (k5, 6, .inl (fun _ => 0))), (q9, .inl (k5, 6, .inl (fun _ => 0))), (q13, .inl (k5, 30, .inl (fun _ => 0))), (q17, .inl (k5, 30, .inl (fun _ => 0))), (q21, .inl (k5, 30, .inl (fun _ => 0)))]) := hD
  refine W.widen (k := 5) (n := 102) (by decide) (by decide) ?_
  refine va_putF (D := (dC, dI)) (ci := 4) (v := .ref q21) (ty := .array .int) (C := RX4) (T := TX4) (N := 13) hx hb hts (by decide +kernel) tyX4 tyX4_ok nmX4 hown hK hP hD hS 0 rfl rfl 4 (by decide) (hts (.fieldLink RX4 24 "ConkerHeirs$State" "crack" "[I") (by decide +kernel)) (fun _ h9 => h9) rfl hin rfl (by decide +kernel) rfl rfl (Nat.le_of_ble_eq_true rfl) dX4_init_41 (fun H locs hP hD hS => ?_)
  have hP : va_P (dC, dI) vwCl ([(h0, .inr (4, [.ref q5, .ref q9, .ref q13, .ref q17, .ref q21, .null, .null, .null, .null, .null, .int 0, .int 0, .int 0])), (q5, .inl (k5, 6, .inl (fun _ => 0))), (q9, .inl (k5, 6, .inl (fun _ => 0))), (q13, .inl (k5, 30, .inl (fun _ => 0))), (q17, .inl (k5, 30, .inl (fun _ => 0))), (q21, .inl (k5, 30, .inl (fun _ => 0)))]) H := hP
  have hD : va_D A ([(h0, .inr (4, [.ref q5, .ref q9, .ref q13, .ref q17, .ref q21, .null, .null, .null, .null, .null, .int 0, .int 0, .int 0])), (q5, .inl (k5, 6, .inl (fun _ => 0))), (q9, .inl (k5, 6, .inl (fun _ => 0))), (q13, .inl (k5, 30, .inl (fun _ => 0))), (q17, .inl (k5, 30, .inl (fun _ => 0))), (q21, .inl (k5, 30, .inl (fun _ => 0)))]) := hD
  refine lv_aload_n hx hb dX4_init_44 rfl (lv_at hl 0 rfl) ?_
  refine lv_bipush (v := 30) hx hb dX4_init_45 (by decide) ?_
  have hc25 : 5 + 1 ≤ 10 := by decide
  have hs25 : 102 + 30 ≤ 252 := by decide
  refine va_newa (atype := .int) (ty := .int) (a0 := (30, .inl (fun _ => 0))) (N' := 30) hx hb (hts (.arrayClass .int) (by decide +kernel)) rfl hK hP hD hS hA (fun _ => rfl) (by decide) (by decide) (by decide) hc25 hs25 dX4_init_47 (fun q25 k25 H hK hP hD hS => ?_)
  have e25 : k5 = k25 := kb_one hK 0 1 rfl rfl
  subst e25
  have hK := hK.sub (tys' := [(k5, .int)]) [0] rfl
  have hP : va_P (dC, dI) vwCl ([(h0, .inr (4, [.ref q5, .ref q9, .ref q13, .ref q17, .ref q21, .null, .null, .null, .null, .null, .int 0, .int 0, .int 0])), (q5, .inl (k5, 6, .inl (fun _ => 0))), (q9, .inl (k5, 6, .inl (fun _ => 0))), (q13, .inl (k5, 30, .inl (fun _ => 0))), (q17, .inl (k5, 30, .inl (fun _ => 0))), (q21, .inl (k5, 30, .inl (fun _ => 0))), (q25, .inl (k5, 30, .inl (fun _ => 0)))]) H := hP
  have hD : va_D A ([(h0, .inr (4, [.ref q5, .ref q9, .ref q13, .ref q17, .ref q21, .null, .null, .null, .null, .null, .int 0, .int 0, .int 0])), (q5, .inl (k5, 6, .inl (fun _ => 0))), (q9, .inl (k5, 6, .inl (fun _ => 0))), (q13, .inl (k5, 30, .inl (fun _ => 0))), (q17, .inl (k5, 30, .inl (fun _ => 0))), (q21, .inl (k5, 30, .inl (fun _ => 0))), (q25, .inl (k5, 30, .inl (fun _ => 0)))]) := hD
  refine W.widen (k := 6) (n := 132) (by decide) (by decide) ?_
  refine va_putF (D := (dC, dI)) (ci := 4) (v := .ref q25) (ty := .array .int) (C := RX4) (T := TX4) (N := 13) hx hb hts (by decide +kernel) tyX4 tyX4_ok nmX4 hown hK hP hD hS 0 rfl rfl 5 (by decide) (hts (.fieldLink RX4 27 "ConkerHeirs$State" "wear" "[I") (by decide +kernel)) (fun _ h9 => h9) rfl hin rfl (by decide +kernel) rfl rfl (Nat.le_of_ble_eq_true rfl) dX4_init_49 (fun H locs hP hD hS => ?_)
  have hP : va_P (dC, dI) vwCl ([(h0, .inr (4, [.ref q5, .ref q9, .ref q13, .ref q17, .ref q21, .ref q25, .null, .null, .null, .null, .int 0, .int 0, .int 0])), (q5, .inl (k5, 6, .inl (fun _ => 0))), (q9, .inl (k5, 6, .inl (fun _ => 0))), (q13, .inl (k5, 30, .inl (fun _ => 0))), (q17, .inl (k5, 30, .inl (fun _ => 0))), (q21, .inl (k5, 30, .inl (fun _ => 0))), (q25, .inl (k5, 30, .inl (fun _ => 0)))]) H := hP
  have hD : va_D A ([(h0, .inr (4, [.ref q5, .ref q9, .ref q13, .ref q17, .ref q21, .ref q25, .null, .null, .null, .null, .int 0, .int 0, .int 0])), (q5, .inl (k5, 6, .inl (fun _ => 0))), (q9, .inl (k5, 6, .inl (fun _ => 0))), (q13, .inl (k5, 30, .inl (fun _ => 0))), (q17, .inl (k5, 30, .inl (fun _ => 0))), (q21, .inl (k5, 30, .inl (fun _ => 0))), (q25, .inl (k5, 30, .inl (fun _ => 0)))]) := hD
  refine lv_aload_n hx hb dX4_init_52 rfl (lv_at hl 0 rfl) ?_
  refine lv_bipush (v := 30) hx hb dX4_init_53 (by decide) ?_
  have hc29 : 6 + 1 ≤ 10 := by decide
  have hs29 : 132 + 30 ≤ 252 := by decide
  refine va_newa (atype := .int) (ty := .int) (a0 := (30, .inl (fun _ => 0))) (N' := 30) hx hb (hts (.arrayClass .int) (by decide +kernel)) rfl hK hP hD hS hA (fun _ => rfl) (by decide) (by decide) (by decide) hc29 hs29 dX4_init_55 (fun q29 k29 H hK hP hD hS => ?_)
  have e29 : k5 = k29 := kb_one hK 0 1 rfl rfl
  subst e29
  have hK := hK.sub (tys' := [(k5, .int)]) [0] rfl
  have hP : va_P (dC, dI) vwCl ([(h0, .inr (4, [.ref q5, .ref q9, .ref q13, .ref q17, .ref q21, .ref q25, .null, .null, .null, .null, .int 0, .int 0, .int 0])), (q5, .inl (k5, 6, .inl (fun _ => 0))), (q9, .inl (k5, 6, .inl (fun _ => 0))), (q13, .inl (k5, 30, .inl (fun _ => 0))), (q17, .inl (k5, 30, .inl (fun _ => 0))), (q21, .inl (k5, 30, .inl (fun _ => 0))), (q25, .inl (k5, 30, .inl (fun _ => 0))), (q29, .inl (k5, 30, .inl (fun _ => 0)))]) H := hP
  have hD : va_D A ([(h0, .inr (4, [.ref q5, .ref q9, .ref q13, .ref q17, .ref q21, .ref q25, .null, .null, .null, .null, .int 0, .int 0, .int 0])), (q5, .inl (k5, 6, .inl (fun _ => 0))), (q9, .inl (k5, 6, .inl (fun _ => 0))), (q13, .inl (k5, 30, .inl (fun _ => 0))), (q17, .inl (k5, 30, .inl (fun _ => 0))), (q21, .inl (k5, 30, .inl (fun _ => 0))), (q25, .inl (k5, 30, .inl (fun _ => 0))), (q29, .inl (k5, 30, .inl (fun _ => 0)))]) := hD
  refine W.widen (k := 7) (n := 162) (by decide) (by decide) ?_
  refine va_putF (D := (dC, dI)) (ci := 4) (v := .ref q29) (ty := .array .int) (C := RX4) (T := TX4) (N := 13) hx hb hts (by decide +kernel) tyX4 tyX4_ok nmX4 hown hK hP hD hS 0 rfl rfl 6 (by decide) (hts (.fieldLink RX4 30 "ConkerHeirs$State" "victories" "[I") (by decide +kernel)) (fun _ h9 => h9) rfl hin rfl (by decide +kernel) rfl rfl (Nat.le_of_ble_eq_true rfl) dX4_init_57 (fun H locs hP hD hS => ?_)
  have hP : va_P (dC, dI) vwCl ([(h0, .inr (4, [.ref q5, .ref q9, .ref q13, .ref q17, .ref q21, .ref q25, .ref q29, .null, .null, .null, .int 0, .int 0, .int 0])), (q5, .inl (k5, 6, .inl (fun _ => 0))), (q9, .inl (k5, 6, .inl (fun _ => 0))), (q13, .inl (k5, 30, .inl (fun _ => 0))), (q17, .inl (k5, 30, .inl (fun _ => 0))), (q21, .inl (k5, 30, .inl (fun _ => 0))), (q25, .inl (k5, 30, .inl (fun _ => 0))), (q29, .inl (k5, 30, .inl (fun _ => 0)))]) H := hP
  have hD : va_D A ([(h0, .inr (4, [.ref q5, .ref q9, .ref q13, .ref q17, .ref q21, .ref q25, .ref q29, .null, .null, .null, .int 0, .int 0, .int 0])), (q5, .inl (k5, 6, .inl (fun _ => 0))), (q9, .inl (k5, 6, .inl (fun _ => 0))), (q13, .inl (k5, 30, .inl (fun _ => 0))), (q17, .inl (k5, 30, .inl (fun _ => 0))), (q21, .inl (k5, 30, .inl (fun _ => 0))), (q25, .inl (k5, 30, .inl (fun _ => 0))), (q29, .inl (k5, 30, .inl (fun _ => 0)))]) := hD
  refine lv_aload_n hx hb dX4_init_60 rfl (lv_at hl 0 rfl) ?_
  refine lv_bipush (v := 30) hx hb dX4_init_61 (by decide) ?_
  have hc33 : 7 + 1 ≤ 10 := by decide
  have hs33 : 162 + 30 ≤ 252 := by decide
  refine va_newa (atype := .int) (ty := .int) (a0 := (30, .inl (fun _ => 0))) (N' := 30) hx hb (hts (.arrayClass .int) (by decide +kernel)) rfl hK hP hD hS hA (fun _ => rfl) (by decide) (by decide) (by decide) hc33 hs33 dX4_init_63 (fun q33 k33 H hK hP hD hS => ?_)
  have e33 : k5 = k33 := kb_one hK 0 1 rfl rfl
  subst e33
  have hK := hK.sub (tys' := [(k5, .int)]) [0] rfl
  have hP : va_P (dC, dI) vwCl ([(h0, .inr (4, [.ref q5, .ref q9, .ref q13, .ref q17, .ref q21, .ref q25, .ref q29, .null, .null, .null, .int 0, .int 0, .int 0])), (q5, .inl (k5, 6, .inl (fun _ => 0))), (q9, .inl (k5, 6, .inl (fun _ => 0))), (q13, .inl (k5, 30, .inl (fun _ => 0))), (q17, .inl (k5, 30, .inl (fun _ => 0))), (q21, .inl (k5, 30, .inl (fun _ => 0))), (q25, .inl (k5, 30, .inl (fun _ => 0))), (q29, .inl (k5, 30, .inl (fun _ => 0))), (q33, .inl (k5, 30, .inl (fun _ => 0)))]) H := hP
  have hD : va_D A ([(h0, .inr (4, [.ref q5, .ref q9, .ref q13, .ref q17, .ref q21, .ref q25, .ref q29, .null, .null, .null, .int 0, .int 0, .int 0])), (q5, .inl (k5, 6, .inl (fun _ => 0))), (q9, .inl (k5, 6, .inl (fun _ => 0))), (q13, .inl (k5, 30, .inl (fun _ => 0))), (q17, .inl (k5, 30, .inl (fun _ => 0))), (q21, .inl (k5, 30, .inl (fun _ => 0))), (q25, .inl (k5, 30, .inl (fun _ => 0))), (q29, .inl (k5, 30, .inl (fun _ => 0))), (q33, .inl (k5, 30, .inl (fun _ => 0)))]) := hD
  refine W.widen (k := 8) (n := 192) (by decide) (by decide) ?_
  refine va_putF (D := (dC, dI)) (ci := 4) (v := .ref q33) (ty := .array .int) (C := RX4) (T := TX4) (N := 13) hx hb hts (by decide +kernel) tyX4 tyX4_ok nmX4 hown hK hP hD hS 0 rfl rfl 7 (by decide) (hts (.fieldLink RX4 33 "ConkerHeirs$State" "boasts" "[I") (by decide +kernel)) (fun _ h9 => h9) rfl hin rfl (by decide +kernel) rfl rfl (Nat.le_of_ble_eq_true rfl) dX4_init_65 (fun H locs hP hD hS => ?_)
  have hP : va_P (dC, dI) vwCl ([(h0, .inr (4, [.ref q5, .ref q9, .ref q13, .ref q17, .ref q21, .ref q25, .ref q29, .ref q33, .null, .null, .int 0, .int 0, .int 0])), (q5, .inl (k5, 6, .inl (fun _ => 0))), (q9, .inl (k5, 6, .inl (fun _ => 0))), (q13, .inl (k5, 30, .inl (fun _ => 0))), (q17, .inl (k5, 30, .inl (fun _ => 0))), (q21, .inl (k5, 30, .inl (fun _ => 0))), (q25, .inl (k5, 30, .inl (fun _ => 0))), (q29, .inl (k5, 30, .inl (fun _ => 0))), (q33, .inl (k5, 30, .inl (fun _ => 0)))]) H := hP
  have hD : va_D A ([(h0, .inr (4, [.ref q5, .ref q9, .ref q13, .ref q17, .ref q21, .ref q25, .ref q29, .ref q33, .null, .null, .int 0, .int 0, .int 0])), (q5, .inl (k5, 6, .inl (fun _ => 0))), (q9, .inl (k5, 6, .inl (fun _ => 0))), (q13, .inl (k5, 30, .inl (fun _ => 0))), (q17, .inl (k5, 30, .inl (fun _ => 0))), (q21, .inl (k5, 30, .inl (fun _ => 0))), (q25, .inl (k5, 30, .inl (fun _ => 0))), (q29, .inl (k5, 30, .inl (fun _ => 0))), (q33, .inl (k5, 30, .inl (fun _ => 0)))]) := hD
  refine lv_aload_n hx hb dX4_init_68 rfl (lv_at hl 0 rfl) ?_
  refine lv_bipush (v := 30) hx hb dX4_init_69 (by decide) ?_
  have hc37 : 8 + 1 ≤ 10 := by decide
  have hs37 : 192 + 30 ≤ 252 := by decide
  refine va_newa (atype := .int) (ty := .int) (a0 := (30, .inl (fun _ => 0))) (N' := 30) hx hb (hts (.arrayClass .int) (by decide +kernel)) rfl hK hP hD hS hA (fun _ => rfl) (by decide) (by decide) (by decide) hc37 hs37 dX4_init_71 (fun q37 k37 H hK hP hD hS => ?_)
  have e37 : k5 = k37 := kb_one hK 0 1 rfl rfl
  subst e37
  have hK := hK.sub (tys' := [(k5, .int)]) [0] rfl
  have hP : va_P (dC, dI) vwCl ([(h0, .inr (4, [.ref q5, .ref q9, .ref q13, .ref q17, .ref q21, .ref q25, .ref q29, .ref q33, .null, .null, .int 0, .int 0, .int 0])), (q5, .inl (k5, 6, .inl (fun _ => 0))), (q9, .inl (k5, 6, .inl (fun _ => 0))), (q13, .inl (k5, 30, .inl (fun _ => 0))), (q17, .inl (k5, 30, .inl (fun _ => 0))), (q21, .inl (k5, 30, .inl (fun _ => 0))), (q25, .inl (k5, 30, .inl (fun _ => 0))), (q29, .inl (k5, 30, .inl (fun _ => 0))), (q33, .inl (k5, 30, .inl (fun _ => 0))), (q37, .inl (k5, 30, .inl (fun _ => 0)))]) H := hP
  have hD : va_D A ([(h0, .inr (4, [.ref q5, .ref q9, .ref q13, .ref q17, .ref q21, .ref q25, .ref q29, .ref q33, .null, .null, .int 0, .int 0, .int 0])), (q5, .inl (k5, 6, .inl (fun _ => 0))), (q9, .inl (k5, 6, .inl (fun _ => 0))), (q13, .inl (k5, 30, .inl (fun _ => 0))), (q17, .inl (k5, 30, .inl (fun _ => 0))), (q21, .inl (k5, 30, .inl (fun _ => 0))), (q25, .inl (k5, 30, .inl (fun _ => 0))), (q29, .inl (k5, 30, .inl (fun _ => 0))), (q33, .inl (k5, 30, .inl (fun _ => 0))), (q37, .inl (k5, 30, .inl (fun _ => 0)))]) := hD
  refine W.widen (k := 9) (n := 222) (by decide) (by decide) ?_
  refine va_putF (D := (dC, dI)) (ci := 4) (v := .ref q37) (ty := .array .int) (C := RX4) (T := TX4) (N := 13) hx hb hts (by decide +kernel) tyX4 tyX4_ok nmX4 hown hK hP hD hS 0 rfl rfl 8 (by decide) (hts (.fieldLink RX4 36 "ConkerHeirs$State" "how" "[I") (by decide +kernel)) (fun _ h9 => h9) rfl hin rfl (by decide +kernel) rfl rfl (Nat.le_of_ble_eq_true rfl) dX4_init_73 (fun H locs hP hD hS => ?_)
  have hP : va_P (dC, dI) vwCl ([(h0, .inr (4, [.ref q5, .ref q9, .ref q13, .ref q17, .ref q21, .ref q25, .ref q29, .ref q33, .ref q37, .null, .int 0, .int 0, .int 0])), (q5, .inl (k5, 6, .inl (fun _ => 0))), (q9, .inl (k5, 6, .inl (fun _ => 0))), (q13, .inl (k5, 30, .inl (fun _ => 0))), (q17, .inl (k5, 30, .inl (fun _ => 0))), (q21, .inl (k5, 30, .inl (fun _ => 0))), (q25, .inl (k5, 30, .inl (fun _ => 0))), (q29, .inl (k5, 30, .inl (fun _ => 0))), (q33, .inl (k5, 30, .inl (fun _ => 0))), (q37, .inl (k5, 30, .inl (fun _ => 0)))]) H := hP
  have hD : va_D A ([(h0, .inr (4, [.ref q5, .ref q9, .ref q13, .ref q17, .ref q21, .ref q25, .ref q29, .ref q33, .ref q37, .null, .int 0, .int 0, .int 0])), (q5, .inl (k5, 6, .inl (fun _ => 0))), (q9, .inl (k5, 6, .inl (fun _ => 0))), (q13, .inl (k5, 30, .inl (fun _ => 0))), (q17, .inl (k5, 30, .inl (fun _ => 0))), (q21, .inl (k5, 30, .inl (fun _ => 0))), (q25, .inl (k5, 30, .inl (fun _ => 0))), (q29, .inl (k5, 30, .inl (fun _ => 0))), (q33, .inl (k5, 30, .inl (fun _ => 0))), (q37, .inl (k5, 30, .inl (fun _ => 0)))]) := hD
  refine lv_aload_n hx hb dX4_init_76 rfl (lv_at hl 0 rfl) ?_
  refine lv_bipush (v := 30) hx hb dX4_init_77 (by decide) ?_
  have hc41 : 9 + 1 ≤ 10 := by decide
  have hs41 : 222 + 30 ≤ 252 := by decide
  refine va_newa (atype := .int) (ty := .int) (a0 := (30, .inl (fun _ => 0))) (N' := 30) hx hb (hts (.arrayClass .int) (by decide +kernel)) rfl hK hP hD hS hA (fun _ => rfl) (by decide) (by decide) (by decide) hc41 hs41 dX4_init_79 (fun q41 k41 H hK hP hD hS => ?_)
  have e41 : k5 = k41 := kb_one hK 0 1 rfl rfl
  subst e41
  have hK := hK.sub (tys' := [(k5, .int)]) [0] rfl
  have hP : va_P (dC, dI) vwCl ([(h0, .inr (4, [.ref q5, .ref q9, .ref q13, .ref q17, .ref q21, .ref q25, .ref q29, .ref q33, .ref q37, .null, .int 0, .int 0, .int 0])), (q5, .inl (k5, 6, .inl (fun _ => 0))), (q9, .inl (k5, 6, .inl (fun _ => 0))), (q13, .inl (k5, 30, .inl (fun _ => 0))), (q17, .inl (k5, 30, .inl (fun _ => 0))), (q21, .inl (k5, 30, .inl (fun _ => 0))), (q25, .inl (k5, 30, .inl (fun _ => 0))), (q29, .inl (k5, 30, .inl (fun _ => 0))), (q33, .inl (k5, 30, .inl (fun _ => 0))), (q37, .inl (k5, 30, .inl (fun _ => 0))), (q41, .inl (k5, 30, .inl (fun _ => 0)))]) H := hP
  have hD : va_D A ([(h0, .inr (4, [.ref q5, .ref q9, .ref q13, .ref q17, .ref q21, .ref q25, .ref q29, .ref q33, .ref q37, .null, .int 0, .int 0, .int 0])), (q5, .inl (k5, 6, .inl (fun _ => 0))), (q9, .inl (k5, 6, .inl (fun _ => 0))), (q13, .inl (k5, 30, .inl (fun _ => 0))), (q17, .inl (k5, 30, .inl (fun _ => 0))), (q21, .inl (k5, 30, .inl (fun _ => 0))), (q25, .inl (k5, 30, .inl (fun _ => 0))), (q29, .inl (k5, 30, .inl (fun _ => 0))), (q33, .inl (k5, 30, .inl (fun _ => 0))), (q37, .inl (k5, 30, .inl (fun _ => 0))), (q41, .inl (k5, 30, .inl (fun _ => 0)))]) := hD
  refine W.widen (k := 10) (n := 252) (by decide) (by decide) ?_
  refine va_putF (D := (dC, dI)) (ci := 4) (v := .ref q41) (ty := .array .int) (C := RX4) (T := TX4) (N := 13) hx hb hts (by decide +kernel) tyX4 tyX4_ok nmX4 hown hK hP hD hS 0 rfl rfl 9 (by decide) (hts (.fieldLink RX4 39 "ConkerHeirs$State" "smashedBy" "[I") (by decide +kernel)) (fun _ h9 => h9) rfl hin rfl (by decide +kernel) rfl rfl (Nat.le_of_ble_eq_true rfl) dX4_init_81 (fun H locs hP hD hS => ?_)
  have hP : va_P (dC, dI) vwCl ([(h0, .inr (4, [.ref q5, .ref q9, .ref q13, .ref q17, .ref q21, .ref q25, .ref q29, .ref q33, .ref q37, .ref q41, .int 0, .int 0, .int 0])), (q5, .inl (k5, 6, .inl (fun _ => 0))), (q9, .inl (k5, 6, .inl (fun _ => 0))), (q13, .inl (k5, 30, .inl (fun _ => 0))), (q17, .inl (k5, 30, .inl (fun _ => 0))), (q21, .inl (k5, 30, .inl (fun _ => 0))), (q25, .inl (k5, 30, .inl (fun _ => 0))), (q29, .inl (k5, 30, .inl (fun _ => 0))), (q33, .inl (k5, 30, .inl (fun _ => 0))), (q37, .inl (k5, 30, .inl (fun _ => 0))), (q41, .inl (k5, 30, .inl (fun _ => 0)))]) H := hP
  have hD : va_D A ([(h0, .inr (4, [.ref q5, .ref q9, .ref q13, .ref q17, .ref q21, .ref q25, .ref q29, .ref q33, .ref q37, .ref q41, .int 0, .int 0, .int 0])), (q5, .inl (k5, 6, .inl (fun _ => 0))), (q9, .inl (k5, 6, .inl (fun _ => 0))), (q13, .inl (k5, 30, .inl (fun _ => 0))), (q17, .inl (k5, 30, .inl (fun _ => 0))), (q21, .inl (k5, 30, .inl (fun _ => 0))), (q25, .inl (k5, 30, .inl (fun _ => 0))), (q29, .inl (k5, 30, .inl (fun _ => 0))), (q33, .inl (k5, 30, .inl (fun _ => 0))), (q37, .inl (k5, 30, .inl (fun _ => 0))), (q41, .inl (k5, 30, .inl (fun _ => 0)))]) := hD
  refine lv_aload_n hx hb dX4_init_84 rfl (lv_at hl 0 rfl) ?_
  refine lv_iconst (v := 0) hx hb dX4_init_85 (by decide) ?_
  refine va_put (D := (dC, dI)) (ci := 4) (v := .int 0) (ty := .int) (C := RX4) (T := TX4) (N := 13) hx hb hts (by decide +kernel) tyX4 tyX4_ok nmX4 hown hK hP hD hS 0 rfl rfl 10 (by decide) (hts (.fieldLink RX4 42 "ConkerHeirs$State" "conkers" "I") (by decide +kernel)) (fun _ h9 => h9) rfl (by decide +kernel) rfl rfl (Nat.le_of_ble_eq_true rfl) dX4_init_86 (fun H locs hP hD hS => ?_)
  have hP : va_P (dC, dI) vwCl ([(h0, .inr (4, [.ref q5, .ref q9, .ref q13, .ref q17, .ref q21, .ref q25, .ref q29, .ref q33, .ref q37, .ref q41, .int 0, .int 0, .int 0])), (q5, .inl (k5, 6, .inl (fun _ => 0))), (q9, .inl (k5, 6, .inl (fun _ => 0))), (q13, .inl (k5, 30, .inl (fun _ => 0))), (q17, .inl (k5, 30, .inl (fun _ => 0))), (q21, .inl (k5, 30, .inl (fun _ => 0))), (q25, .inl (k5, 30, .inl (fun _ => 0))), (q29, .inl (k5, 30, .inl (fun _ => 0))), (q33, .inl (k5, 30, .inl (fun _ => 0))), (q37, .inl (k5, 30, .inl (fun _ => 0))), (q41, .inl (k5, 30, .inl (fun _ => 0)))]) H := hP
  have hD : va_D A ([(h0, .inr (4, [.ref q5, .ref q9, .ref q13, .ref q17, .ref q21, .ref q25, .ref q29, .ref q33, .ref q37, .ref q41, .int 0, .int 0, .int 0])), (q5, .inl (k5, 6, .inl (fun _ => 0))), (q9, .inl (k5, 6, .inl (fun _ => 0))), (q13, .inl (k5, 30, .inl (fun _ => 0))), (q17, .inl (k5, 30, .inl (fun _ => 0))), (q21, .inl (k5, 30, .inl (fun _ => 0))), (q25, .inl (k5, 30, .inl (fun _ => 0))), (q29, .inl (k5, 30, .inl (fun _ => 0))), (q33, .inl (k5, 30, .inl (fun _ => 0))), (q37, .inl (k5, 30, .inl (fun _ => 0))), (q41, .inl (k5, 30, .inl (fun _ => 0)))]) := hD
  refine lv_aload_n hx hb dX4_init_89 rfl (lv_at hl 0 rfl) ?_
  refine lv_iconst (v := 0) hx hb dX4_init_90 (by decide) ?_
  refine va_put (D := (dC, dI)) (ci := 4) (v := .int 0) (ty := .int) (C := RX4) (T := TX4) (N := 13) hx hb hts (by decide +kernel) tyX4 tyX4_ok nmX4 hown hK hP hD hS 0 rfl rfl 11 (by decide) (hts (.fieldLink RX4 46 "ConkerHeirs$State" "lostVictories" "I") (by decide +kernel)) (fun _ h9 => h9) rfl (by decide +kernel) rfl rfl (Nat.le_of_ble_eq_true rfl) dX4_init_91 (fun H locs hP hD hS => ?_)
  have hP : va_P (dC, dI) vwCl ([(h0, .inr (4, [.ref q5, .ref q9, .ref q13, .ref q17, .ref q21, .ref q25, .ref q29, .ref q33, .ref q37, .ref q41, .int 0, .int 0, .int 0])), (q5, .inl (k5, 6, .inl (fun _ => 0))), (q9, .inl (k5, 6, .inl (fun _ => 0))), (q13, .inl (k5, 30, .inl (fun _ => 0))), (q17, .inl (k5, 30, .inl (fun _ => 0))), (q21, .inl (k5, 30, .inl (fun _ => 0))), (q25, .inl (k5, 30, .inl (fun _ => 0))), (q29, .inl (k5, 30, .inl (fun _ => 0))), (q33, .inl (k5, 30, .inl (fun _ => 0))), (q37, .inl (k5, 30, .inl (fun _ => 0))), (q41, .inl (k5, 30, .inl (fun _ => 0)))]) H := hP
  have hD : va_D A ([(h0, .inr (4, [.ref q5, .ref q9, .ref q13, .ref q17, .ref q21, .ref q25, .ref q29, .ref q33, .ref q37, .ref q41, .int 0, .int 0, .int 0])), (q5, .inl (k5, 6, .inl (fun _ => 0))), (q9, .inl (k5, 6, .inl (fun _ => 0))), (q13, .inl (k5, 30, .inl (fun _ => 0))), (q17, .inl (k5, 30, .inl (fun _ => 0))), (q21, .inl (k5, 30, .inl (fun _ => 0))), (q25, .inl (k5, 30, .inl (fun _ => 0))), (q29, .inl (k5, 30, .inl (fun _ => 0))), (q33, .inl (k5, 30, .inl (fun _ => 0))), (q37, .inl (k5, 30, .inl (fun _ => 0))), (q41, .inl (k5, 30, .inl (fun _ => 0)))]) := hD
  refine lv_aload_n hx hb dX4_init_94 rfl (lv_at hl 0 rfl) ?_
  refine lv_iconst (v := 0) hx hb dX4_init_95 (by decide) ?_
  refine va_put (D := (dC, dI)) (ci := 4) (v := .int 0) (ty := .int) (C := RX4) (T := TX4) (N := 13) hx hb hts (by decide +kernel) tyX4 tyX4_ok nmX4 hown hK hP hD hS 0 rfl rfl 12 (by decide) (hts (.fieldLink RX4 49 "ConkerHeirs$State" "strikes" "I") (by decide +kernel)) (fun _ h9 => h9) rfl (by decide +kernel) rfl rfl (Nat.le_of_ble_eq_true rfl) dX4_init_96 (fun H locs hP hD hS => ?_)
  have hP : va_P (dC, dI) vwCl ([(h0, .inr (4, [.ref q5, .ref q9, .ref q13, .ref q17, .ref q21, .ref q25, .ref q29, .ref q33, .ref q37, .ref q41, .int 0, .int 0, .int 0])), (q5, .inl (k5, 6, .inl (fun _ => 0))), (q9, .inl (k5, 6, .inl (fun _ => 0))), (q13, .inl (k5, 30, .inl (fun _ => 0))), (q17, .inl (k5, 30, .inl (fun _ => 0))), (q21, .inl (k5, 30, .inl (fun _ => 0))), (q25, .inl (k5, 30, .inl (fun _ => 0))), (q29, .inl (k5, 30, .inl (fun _ => 0))), (q33, .inl (k5, 30, .inl (fun _ => 0))), (q37, .inl (k5, 30, .inl (fun _ => 0))), (q41, .inl (k5, 30, .inl (fun _ => 0)))]) H := hP
  have hD : va_D A ([(h0, .inr (4, [.ref q5, .ref q9, .ref q13, .ref q17, .ref q21, .ref q25, .ref q29, .ref q33, .ref q37, .ref q41, .int 0, .int 0, .int 0])), (q5, .inl (k5, 6, .inl (fun _ => 0))), (q9, .inl (k5, 6, .inl (fun _ => 0))), (q13, .inl (k5, 30, .inl (fun _ => 0))), (q17, .inl (k5, 30, .inl (fun _ => 0))), (q21, .inl (k5, 30, .inl (fun _ => 0))), (q25, .inl (k5, 30, .inl (fun _ => 0))), (q29, .inl (k5, 30, .inl (fun _ => 0))), (q33, .inl (k5, 30, .inl (fun _ => 0))), (q37, .inl (k5, 30, .inl (fun _ => 0))), (q41, .inl (k5, 30, .inl (fun _ => 0)))]) := hD
  refine lv_iconst (v := 0) hx hb dX4_init_99 (by decide) ?_
  refine lv_istore_n hx hb dX4_init_100 rfl hl (by decide) rfl (fun ls hl => ?_)
  have hl : lv_has ls 2 [(1, .int 0), (0, .ref h0)] := hl
  refine lv_iload_n hx hb dX4_init_101 rfl (lv_at hl 0 rfl) ?_
  refine lv_bipush (v := 6) hx hb dX4_init_102 (by decide) ?_
  refine lv_icmp_ge (tgt := 120) hx hb dX4_init_104 rfl (fun h => absurd h (by decide)) (fun _ => ?_)
  refine lv_aload_n hx hb dX4_init_107 rfl (lv_at hl 1 rfl) ?_
  refine va_get (D := (dC, dI)) (ci := 4) (C := RX4) (T := TX4) (N := 13) hx hb hts (by decide +kernel) hown hK hP 0 rfl rfl 0 (by decide) (hts (.fieldLink RX4 9 "ConkerHeirs$State" "strings" "[I") (by decide +kernel)) (fun _ h9 => h9) rfl dX4_init_108 ?_
  refine lv_iload_n hx hb dX4_init_111 rfl (lv_at hl 0 rfl) ?_
  refine lv_iconst (v := 3) hx hb dX4_init_112 (by decide) ?_
  refine va_iast hx hb hK hP hD hS 1 0 rfl rfl (by unfold vp_in; decide) dX4_init_113 (fun H locs hP hD hS => ?_)
  have hP : va_P (dC, dI) vwCl ([(h0, .inr (4, [.ref q5, .ref q9, .ref q13, .ref q17, .ref q21, .ref q25, .ref q29, .ref q33, .ref q37, .ref q41, .int 0, .int 0, .int 0])), (q5, .inl (k5, 6, .inl (upd (fun _ => 0) 0 3))), (q9, .inl (k5, 6, .inl (fun _ => 0))), (q13, .inl (k5, 30, .inl (fun _ => 0))), (q17, .inl (k5, 30, .inl (fun _ => 0))), (q21, .inl (k5, 30, .inl (fun _ => 0))), (q25, .inl (k5, 30, .inl (fun _ => 0))), (q29, .inl (k5, 30, .inl (fun _ => 0))), (q33, .inl (k5, 30, .inl (fun _ => 0))), (q37, .inl (k5, 30, .inl (fun _ => 0))), (q41, .inl (k5, 30, .inl (fun _ => 0)))]) H := hP
  have hD : va_D A ([(h0, .inr (4, [.ref q5, .ref q9, .ref q13, .ref q17, .ref q21, .ref q25, .ref q29, .ref q33, .ref q37, .ref q41, .int 0, .int 0, .int 0])), (q5, .inl (k5, 6, .inl (upd (fun _ => 0) 0 3))), (q9, .inl (k5, 6, .inl (fun _ => 0))), (q13, .inl (k5, 30, .inl (fun _ => 0))), (q17, .inl (k5, 30, .inl (fun _ => 0))), (q21, .inl (k5, 30, .inl (fun _ => 0))), (q25, .inl (k5, 30, .inl (fun _ => 0))), (q29, .inl (k5, 30, .inl (fun _ => 0))), (q33, .inl (k5, 30, .inl (fun _ => 0))), (q37, .inl (k5, 30, .inl (fun _ => 0))), (q41, .inl (k5, 30, .inl (fun _ => 0)))]) := hD
  refine lv_iinc (v := 1) hx hb dX4_init_114 hl (k := 0) rfl (by decide) (by decide) rfl (fun ls hl => ?_)
  have hl : lv_has ls 2 [(1, .int 1), (0, .ref h0)] := hl
  refine lv_goto (tgt := 101) hx hb dX4_init_117 rfl ?_
  refine lv_iload_n hx hb dX4_init_101 rfl (lv_at hl 0 rfl) ?_
  refine lv_bipush (v := 6) hx hb dX4_init_102 (by decide) ?_
  refine lv_icmp_ge (tgt := 120) hx hb dX4_init_104 rfl (fun h => absurd h (by decide)) (fun _ => ?_)
  refine lv_aload_n hx hb dX4_init_107 rfl (lv_at hl 1 rfl) ?_
  refine va_get (D := (dC, dI)) (ci := 4) (C := RX4) (T := TX4) (N := 13) hx hb hts (by decide +kernel) hown hK hP 0 rfl rfl 0 (by decide) (hts (.fieldLink RX4 9 "ConkerHeirs$State" "strings" "[I") (by decide +kernel)) (fun _ h9 => h9) rfl dX4_init_108 ?_
  refine lv_iload_n hx hb dX4_init_111 rfl (lv_at hl 0 rfl) ?_
  refine lv_iconst (v := 3) hx hb dX4_init_112 (by decide) ?_
  refine va_iast hx hb hK hP hD hS 1 0 rfl rfl (by unfold vp_in; decide) dX4_init_113 (fun H locs hP hD hS => ?_)
  have hP : va_P (dC, dI) vwCl ([(h0, .inr (4, [.ref q5, .ref q9, .ref q13, .ref q17, .ref q21, .ref q25, .ref q29, .ref q33, .ref q37, .ref q41, .int 0, .int 0, .int 0])), (q5, .inl (k5, 6, .inl (upd (upd (fun _ => 0) 0 3) 1 3))), (q9, .inl (k5, 6, .inl (fun _ => 0))), (q13, .inl (k5, 30, .inl (fun _ => 0))), (q17, .inl (k5, 30, .inl (fun _ => 0))), (q21, .inl (k5, 30, .inl (fun _ => 0))), (q25, .inl (k5, 30, .inl (fun _ => 0))), (q29, .inl (k5, 30, .inl (fun _ => 0))), (q33, .inl (k5, 30, .inl (fun _ => 0))), (q37, .inl (k5, 30, .inl (fun _ => 0))), (q41, .inl (k5, 30, .inl (fun _ => 0)))]) H := hP
  have hD : va_D A ([(h0, .inr (4, [.ref q5, .ref q9, .ref q13, .ref q17, .ref q21, .ref q25, .ref q29, .ref q33, .ref q37, .ref q41, .int 0, .int 0, .int 0])), (q5, .inl (k5, 6, .inl (upd (upd (fun _ => 0) 0 3) 1 3))), (q9, .inl (k5, 6, .inl (fun _ => 0))), (q13, .inl (k5, 30, .inl (fun _ => 0))), (q17, .inl (k5, 30, .inl (fun _ => 0))), (q21, .inl (k5, 30, .inl (fun _ => 0))), (q25, .inl (k5, 30, .inl (fun _ => 0))), (q29, .inl (k5, 30, .inl (fun _ => 0))), (q33, .inl (k5, 30, .inl (fun _ => 0))), (q37, .inl (k5, 30, .inl (fun _ => 0))), (q41, .inl (k5, 30, .inl (fun _ => 0)))]) := hD
  refine lv_iinc (v := 2) hx hb dX4_init_114 hl (k := 0) rfl (by decide) (by decide) rfl (fun ls hl => ?_)
  have hl : lv_has ls 2 [(1, .int 2), (0, .ref h0)] := hl
  refine lv_goto (tgt := 101) hx hb dX4_init_117 rfl ?_
  refine lv_iload_n hx hb dX4_init_101 rfl (lv_at hl 0 rfl) ?_
  refine lv_bipush (v := 6) hx hb dX4_init_102 (by decide) ?_
  refine lv_icmp_ge (tgt := 120) hx hb dX4_init_104 rfl (fun h => absurd h (by decide)) (fun _ => ?_)
  refine lv_aload_n hx hb dX4_init_107 rfl (lv_at hl 1 rfl) ?_
  refine va_get (D := (dC, dI)) (ci := 4) (C := RX4) (T := TX4) (N := 13) hx hb hts (by decide +kernel) hown hK hP 0 rfl rfl 0 (by decide) (hts (.fieldLink RX4 9 "ConkerHeirs$State" "strings" "[I") (by decide +kernel)) (fun _ h9 => h9) rfl dX4_init_108 ?_
  refine lv_iload_n hx hb dX4_init_111 rfl (lv_at hl 0 rfl) ?_
  refine lv_iconst (v := 3) hx hb dX4_init_112 (by decide) ?_
  refine va_iast hx hb hK hP hD hS 1 0 rfl rfl (by unfold vp_in; decide) dX4_init_113 (fun H locs hP hD hS => ?_)
  have hP : va_P (dC, dI) vwCl ([(h0, .inr (4, [.ref q5, .ref q9, .ref q13, .ref q17, .ref q21, .ref q25, .ref q29, .ref q33, .ref q37, .ref q41, .int 0, .int 0, .int 0])), (q5, .inl (k5, 6, .inl (upd (upd (upd (fun _ => 0) 0 3) 1 3) 2 3))), (q9, .inl (k5, 6, .inl (fun _ => 0))), (q13, .inl (k5, 30, .inl (fun _ => 0))), (q17, .inl (k5, 30, .inl (fun _ => 0))), (q21, .inl (k5, 30, .inl (fun _ => 0))), (q25, .inl (k5, 30, .inl (fun _ => 0))), (q29, .inl (k5, 30, .inl (fun _ => 0))), (q33, .inl (k5, 30, .inl (fun _ => 0))), (q37, .inl (k5, 30, .inl (fun _ => 0))), (q41, .inl (k5, 30, .inl (fun _ => 0)))]) H := hP
  have hD : va_D A ([(h0, .inr (4, [.ref q5, .ref q9, .ref q13, .ref q17, .ref q21, .ref q25, .ref q29, .ref q33, .ref q37, .ref q41, .int 0, .int 0, .int 0])), (q5, .inl (k5, 6, .inl (upd (upd (upd (fun _ => 0) 0 3) 1 3) 2 3))), (q9, .inl (k5, 6, .inl (fun _ => 0))), (q13, .inl (k5, 30, .inl (fun _ => 0))), (q17, .inl (k5, 30, .inl (fun _ => 0))), (q21, .inl (k5, 30, .inl (fun _ => 0))), (q25, .inl (k5, 30, .inl (fun _ => 0))), (q29, .inl (k5, 30, .inl (fun _ => 0))), (q33, .inl (k5, 30, .inl (fun _ => 0))), (q37, .inl (k5, 30, .inl (fun _ => 0))), (q41, .inl (k5, 30, .inl (fun _ => 0)))]) := hD
  refine lv_iinc (v := 3) hx hb dX4_init_114 hl (k := 0) rfl (by decide) (by decide) rfl (fun ls hl => ?_)
  have hl : lv_has ls 2 [(1, .int 3), (0, .ref h0)] := hl
  refine lv_goto (tgt := 101) hx hb dX4_init_117 rfl ?_
  refine lv_iload_n hx hb dX4_init_101 rfl (lv_at hl 0 rfl) ?_
  refine lv_bipush (v := 6) hx hb dX4_init_102 (by decide) ?_
  refine lv_icmp_ge (tgt := 120) hx hb dX4_init_104 rfl (fun h => absurd h (by decide)) (fun _ => ?_)
  refine lv_aload_n hx hb dX4_init_107 rfl (lv_at hl 1 rfl) ?_
  refine va_get (D := (dC, dI)) (ci := 4) (C := RX4) (T := TX4) (N := 13) hx hb hts (by decide +kernel) hown hK hP 0 rfl rfl 0 (by decide) (hts (.fieldLink RX4 9 "ConkerHeirs$State" "strings" "[I") (by decide +kernel)) (fun _ h9 => h9) rfl dX4_init_108 ?_
  refine lv_iload_n hx hb dX4_init_111 rfl (lv_at hl 0 rfl) ?_
  refine lv_iconst (v := 3) hx hb dX4_init_112 (by decide) ?_
  refine va_iast hx hb hK hP hD hS 1 0 rfl rfl (by unfold vp_in; decide) dX4_init_113 (fun H locs hP hD hS => ?_)
  have hP : va_P (dC, dI) vwCl ([(h0, .inr (4, [.ref q5, .ref q9, .ref q13, .ref q17, .ref q21, .ref q25, .ref q29, .ref q33, .ref q37, .ref q41, .int 0, .int 0, .int 0])), (q5, .inl (k5, 6, .inl (upd (upd (upd (upd (fun _ => 0) 0 3) 1 3) 2 3) 3 3))), (q9, .inl (k5, 6, .inl (fun _ => 0))), (q13, .inl (k5, 30, .inl (fun _ => 0))), (q17, .inl (k5, 30, .inl (fun _ => 0))), (q21, .inl (k5, 30, .inl (fun _ => 0))), (q25, .inl (k5, 30, .inl (fun _ => 0))), (q29, .inl (k5, 30, .inl (fun _ => 0))), (q33, .inl (k5, 30, .inl (fun _ => 0))), (q37, .inl (k5, 30, .inl (fun _ => 0))), (q41, .inl (k5, 30, .inl (fun _ => 0)))]) H := hP
  have hD : va_D A ([(h0, .inr (4, [.ref q5, .ref q9, .ref q13, .ref q17, .ref q21, .ref q25, .ref q29, .ref q33, .ref q37, .ref q41, .int 0, .int 0, .int 0])), (q5, .inl (k5, 6, .inl (upd (upd (upd (upd (fun _ => 0) 0 3) 1 3) 2 3) 3 3))), (q9, .inl (k5, 6, .inl (fun _ => 0))), (q13, .inl (k5, 30, .inl (fun _ => 0))), (q17, .inl (k5, 30, .inl (fun _ => 0))), (q21, .inl (k5, 30, .inl (fun _ => 0))), (q25, .inl (k5, 30, .inl (fun _ => 0))), (q29, .inl (k5, 30, .inl (fun _ => 0))), (q33, .inl (k5, 30, .inl (fun _ => 0))), (q37, .inl (k5, 30, .inl (fun _ => 0))), (q41, .inl (k5, 30, .inl (fun _ => 0)))]) := hD
  refine lv_iinc (v := 4) hx hb dX4_init_114 hl (k := 0) rfl (by decide) (by decide) rfl (fun ls hl => ?_)
  have hl : lv_has ls 2 [(1, .int 4), (0, .ref h0)] := hl
  refine lv_goto (tgt := 101) hx hb dX4_init_117 rfl ?_
  refine lv_iload_n hx hb dX4_init_101 rfl (lv_at hl 0 rfl) ?_
  refine lv_bipush (v := 6) hx hb dX4_init_102 (by decide) ?_
  refine lv_icmp_ge (tgt := 120) hx hb dX4_init_104 rfl (fun h => absurd h (by decide)) (fun _ => ?_)
  refine lv_aload_n hx hb dX4_init_107 rfl (lv_at hl 1 rfl) ?_
  refine va_get (D := (dC, dI)) (ci := 4) (C := RX4) (T := TX4) (N := 13) hx hb hts (by decide +kernel) hown hK hP 0 rfl rfl 0 (by decide) (hts (.fieldLink RX4 9 "ConkerHeirs$State" "strings" "[I") (by decide +kernel)) (fun _ h9 => h9) rfl dX4_init_108 ?_
  refine lv_iload_n hx hb dX4_init_111 rfl (lv_at hl 0 rfl) ?_
  refine lv_iconst (v := 3) hx hb dX4_init_112 (by decide) ?_
  refine va_iast hx hb hK hP hD hS 1 0 rfl rfl (by unfold vp_in; decide) dX4_init_113 (fun H locs hP hD hS => ?_)
  have hP : va_P (dC, dI) vwCl ([(h0, .inr (4, [.ref q5, .ref q9, .ref q13, .ref q17, .ref q21, .ref q25, .ref q29, .ref q33, .ref q37, .ref q41, .int 0, .int 0, .int 0])), (q5, .inl (k5, 6, .inl (upd (upd (upd (upd (upd (fun _ => 0) 0 3) 1 3) 2 3) 3 3) 4 3))), (q9, .inl (k5, 6, .inl (fun _ => 0))), (q13, .inl (k5, 30, .inl (fun _ => 0))), (q17, .inl (k5, 30, .inl (fun _ => 0))), (q21, .inl (k5, 30, .inl (fun _ => 0))), (q25, .inl (k5, 30, .inl (fun _ => 0))), (q29, .inl (k5, 30, .inl (fun _ => 0))), (q33, .inl (k5, 30, .inl (fun _ => 0))), (q37, .inl (k5, 30, .inl (fun _ => 0))), (q41, .inl (k5, 30, .inl (fun _ => 0)))]) H := hP
  have hD : va_D A ([(h0, .inr (4, [.ref q5, .ref q9, .ref q13, .ref q17, .ref q21, .ref q25, .ref q29, .ref q33, .ref q37, .ref q41, .int 0, .int 0, .int 0])), (q5, .inl (k5, 6, .inl (upd (upd (upd (upd (upd (fun _ => 0) 0 3) 1 3) 2 3) 3 3) 4 3))), (q9, .inl (k5, 6, .inl (fun _ => 0))), (q13, .inl (k5, 30, .inl (fun _ => 0))), (q17, .inl (k5, 30, .inl (fun _ => 0))), (q21, .inl (k5, 30, .inl (fun _ => 0))), (q25, .inl (k5, 30, .inl (fun _ => 0))), (q29, .inl (k5, 30, .inl (fun _ => 0))), (q33, .inl (k5, 30, .inl (fun _ => 0))), (q37, .inl (k5, 30, .inl (fun _ => 0))), (q41, .inl (k5, 30, .inl (fun _ => 0)))]) := hD
  refine lv_iinc (v := 5) hx hb dX4_init_114 hl (k := 0) rfl (by decide) (by decide) rfl (fun ls hl => ?_)
  have hl : lv_has ls 2 [(1, .int 5), (0, .ref h0)] := hl
  refine lv_goto (tgt := 101) hx hb dX4_init_117 rfl ?_
  refine lv_iload_n hx hb dX4_init_101 rfl (lv_at hl 0 rfl) ?_
  refine lv_bipush (v := 6) hx hb dX4_init_102 (by decide) ?_
  refine lv_icmp_ge (tgt := 120) hx hb dX4_init_104 rfl (fun h => absurd h (by decide)) (fun _ => ?_)
  refine lv_aload_n hx hb dX4_init_107 rfl (lv_at hl 1 rfl) ?_
  refine va_get (D := (dC, dI)) (ci := 4) (C := RX4) (T := TX4) (N := 13) hx hb hts (by decide +kernel) hown hK hP 0 rfl rfl 0 (by decide) (hts (.fieldLink RX4 9 "ConkerHeirs$State" "strings" "[I") (by decide +kernel)) (fun _ h9 => h9) rfl dX4_init_108 ?_
  refine lv_iload_n hx hb dX4_init_111 rfl (lv_at hl 0 rfl) ?_
  refine lv_iconst (v := 3) hx hb dX4_init_112 (by decide) ?_
  refine va_iast hx hb hK hP hD hS 1 0 rfl rfl (by unfold vp_in; decide) dX4_init_113 (fun H locs hP hD hS => ?_)
  have hP : va_P (dC, dI) vwCl ([(h0, .inr (4, [.ref q5, .ref q9, .ref q13, .ref q17, .ref q21, .ref q25, .ref q29, .ref q33, .ref q37, .ref q41, .int 0, .int 0, .int 0])), (q5, .inl (k5, 6, .inl (upd (upd (upd (upd (upd (upd (fun _ => 0) 0 3) 1 3) 2 3) 3 3) 4 3) 5 3))), (q9, .inl (k5, 6, .inl (fun _ => 0))), (q13, .inl (k5, 30, .inl (fun _ => 0))), (q17, .inl (k5, 30, .inl (fun _ => 0))), (q21, .inl (k5, 30, .inl (fun _ => 0))), (q25, .inl (k5, 30, .inl (fun _ => 0))), (q29, .inl (k5, 30, .inl (fun _ => 0))), (q33, .inl (k5, 30, .inl (fun _ => 0))), (q37, .inl (k5, 30, .inl (fun _ => 0))), (q41, .inl (k5, 30, .inl (fun _ => 0)))]) H := hP
  have hD : va_D A ([(h0, .inr (4, [.ref q5, .ref q9, .ref q13, .ref q17, .ref q21, .ref q25, .ref q29, .ref q33, .ref q37, .ref q41, .int 0, .int 0, .int 0])), (q5, .inl (k5, 6, .inl (upd (upd (upd (upd (upd (upd (fun _ => 0) 0 3) 1 3) 2 3) 3 3) 4 3) 5 3))), (q9, .inl (k5, 6, .inl (fun _ => 0))), (q13, .inl (k5, 30, .inl (fun _ => 0))), (q17, .inl (k5, 30, .inl (fun _ => 0))), (q21, .inl (k5, 30, .inl (fun _ => 0))), (q25, .inl (k5, 30, .inl (fun _ => 0))), (q29, .inl (k5, 30, .inl (fun _ => 0))), (q33, .inl (k5, 30, .inl (fun _ => 0))), (q37, .inl (k5, 30, .inl (fun _ => 0))), (q41, .inl (k5, 30, .inl (fun _ => 0)))]) := hD
  refine lv_iinc (v := 6) hx hb dX4_init_114 hl (k := 0) rfl (by decide) (by decide) rfl (fun ls hl => ?_)
  have hl : lv_has ls 2 [(1, .int 6), (0, .ref h0)] := hl
  refine lv_goto (tgt := 101) hx hb dX4_init_117 rfl ?_
  refine lv_iload_n hx hb dX4_init_101 rfl (lv_at hl 0 rfl) ?_
  refine lv_bipush (v := 6) hx hb dX4_init_102 (by decide) ?_
  refine lv_icmp_ge (tgt := 120) hx hb dX4_init_104 rfl (fun _ => ?_) (fun h => absurd (show (6 : Int32) ≤ 6 by decide) h)
  have hK9 := hK.sub (tys' := [(k5, .int)]) [0] rfl
  have hP9 : va_P (dC, dI) vwCl (stB k5 (fun j => match j with | 0 => h0 | 1 => q5 | 2 => q9 | 3 => q13 | 4 => q17 | 5 => q21 | 6 => q25 | 7 => q29 | 8 => q33 | 9 => q37 | _ => q41)) H := hP
  have hD9 : va_D A (stB k5 (fun j => match j with | 0 => h0 | 1 => q5 | 2 => q9 | 3 => q13 | 4 => q17 | 5 => q21 | 6 => q25 | 7 => q29 | 8 => q33 | 9 => q37 | _ => q41)) := hD
  exact W.vret hx hb hr (fun t ht hW => ⟨⟨(), rfl, trivial, k5, (fun j => match j with | 0 => h0 | 1 => q5 | 2 => q9 | 3 => q13 | 4 => q17 | 5 => q21 | 6 => q25 | 7 => q29 | 8 => q33 | 9 => q37 | _ => q41), rfl, by rw [ht]; exact hP9, va_K.moved hW.alike hK9, hD9⟩, hS.F ht⟩) hS.2.2 dX4_init_120
