/-! The constructor of ConkerHeirs -/
set_option maxHeartbeats 1000000 in
set_option maxRecDepth 100000 in
theorem c_X5_init (l : Launch) (dC : Nat → ClassId) (dI : Nat → Nat → Nat) (h0 : Nat) (sz : Nat) : Met l yX5_init wsX5_init ({ frames := 3, cells := 95, slots := 2203, locals := 54 } : Room) (va_Pc [.ref h0] (fun U => U.heap.size = sz ∧ va_P (dC, dI) vwCl [(h0, .inr (5, [.null, .null, .null, .null, .null, .null, .null, .int 0]))] U.heap ∧ va_K (dC, dI) vwCl [] U ∧ va_D (fun _ => True) [(h0, .inr (5, [.null, .null, .null, .null, .null, .null, .null, .int 0]))] ∧ va_AO RX4 U ∧ va_Nw (Cond.methodLinkNest RX5 31 yX3_init "ConkerHeirs") U ∧ va_Nw (Cond.methodLinkNest RX5 38 yX0_init "ConkerHeirs") U ∧ va_Nw (Cond.methodLinkNest RX5 45 yX2_init "ConkerHeirs") U)) (va_Qv (fun _ : Unit => True) (fun _ t => ∃ (cA cC cR : ClassId) (b1 b2 b3 : Nat → Nat) (hH qS : Nat) (b4 b5 b6 b7 b8 : Nat → Nat) (hS sS hD hR rR : Nat), va_P (dC, dI) vwCl (gamB cA cC cR h0 b1 b2 b3 hH qS b4 b5 b6 b7 b8 hS sS hD hR rR) t.heap ∧ va_K (dC, dI) vwCl [(cA, .int), (cC, .char), (cR, .object RX4)] t ∧ va_D (va_A [(h0, .inr (5, [.null, .null, .null, .null, .null, .null, .null, .int 0]))] sz) (gamB cA cC cR h0 b1 b2 b3 hH qS b4 b5 b6 b7 b8 hS sS hD hR rR)) (va_A [(h0, .inr (5, [.null, .null, .null, .null, .null, .null, .null, .int 0]))] sz)) 95 2203 (va_A [(h0, .inr (5, [.null, .null, .null, .null, .null, .null, .null, .int 0]))] sz) := by
  refine Met.ofW (cc := cX5_init) (maxL := 1) (ret := none) (by decide) rfl ?_
  intro p e s m args below meth c s₁ B hml hv
  obtain ⟨rfl, hsz, hP, hK, hD0, hn0, hn1, hn2, hn3⟩ := hv
  have hx := B.exec
  have hb := B.bytes
  have hr := B.returns
  have hts := atoms_spec (ws := wsX5_init) B.pre
  have hown : s.vm.findClass RX5 = some m.cls := findClass_of_methodNamed B.named
  have hin : meth.name = "<init>" := (name_of_methodNamed B.named B.method).1
  subst hsz
  have hD := hD0.self (sz := s.heap.size)
  generalize hAe : va_A [(h0, .inr (5, [.null, .null, .null, .null, .null, .null, .null, .int 0]))] s.heap.size = A at hD ⊢
  have hA : ∀ q : Nat, s.heap.size ≤ q → A q := fun q h => by rw [← hAe]; exact Or.inr h
  have hS : va_S A s.heap s.heap [] := va_S.rf
  have hP : va_P (dC, dI) vwCl [(h0, .inr (5, [.null, .null, .null, .null, .null, .null, .null, .int 0]))] s.heap := hP
  have hl := lv_entry ([.ref h0]) (n := 1) (Nat.le_of_ble_eq_true rfl)
  rw [lg_entry_eq]
  generalize (lg_sl ([.ref h0]) ++ List.replicate (1 - (lg_sl ([.ref h0])).length) Slot.unset).toArray = ls at hl ⊢
  have hl : lv_has ls 1 [(0, .ref h0)] := hl
  refine lv_aload_n hx hb dX5_init_0 rfl (lv_at hl 0 rfl) ?_
  refine W.objInit hx hb hown (hts (.methodLink RX5 1 objectInit) (by decide +kernel)) (hts (.instanceMethod objectInit) (by decide +kernel)) (hts _ (List.mem_of_getElem? (i := 3) rfl)) rfl (by rw [hml]; exact hl.1) rfl dX5_init_1 (Nat.le_of_ble_eq_true rfl) (Nat.le_of_ble_eq_true rfl) ?_
  refine W.eq (g2 := F0 m 4 ls []) rfl ?_
  refine lv_aload_n hx hb dX5_init_4 rfl (lv_at hl 0 rfl) ?_
  have hc4 : 0 + 1 ≤ 95 := by decide
  have hs4 : 0 + 13 ≤ 2203 := by decide
  refine va_new (ci := 4) (fs := [.null, .null, .null, .null, .null, .null, .null, .null, .null, .null, .int 0, .int 0, .int 0]) (C := RX4) (T := TX4) (N := 13) hx hb hts (by decide +kernel) tyX4 tyX4_ok hown (hts (.classLink RX5 7 RX4) (by decide +kernel)) (hts (.instantiable RX4 13) (by decide +kernel)) (hts (.initialized RX4) (by decide +kernel)) hK hP hD hS hA rfl (fun j hj => by rcases (show j = 0 ∨ j = 1 ∨ j = 2 ∨ j = 3 ∨ j = 4 ∨ j = 5 ∨ j = 6 ∨ j = 7 ∨ j = 8 ∨ j = 9 ∨ j = 10 ∨ j = 11 ∨ j = 12 by omega) with rfl | rfl | rfl | rfl | rfl | rfl | rfl | rfl | rfl | rfl | rfl | rfl | rfl <;> rfl) hc4 hs4 dX5_init_5 (fun q4 H hP hD hS => ?_)
  have hP : va_P (dC, dI) vwCl ([(h0, .inr (5, [.null, .null, .null, .null, .null, .null, .null, .int 0])), (q4, .inr (4, [.null, .null, .null, .null, .null, .null, .null, .null, .null, .null, .int 0, .int 0, .int 0]))]) H := hP
  have hD : va_D A ([(h0, .inr (5, [.null, .null, .null, .null, .null, .null, .null, .int 0])), (q4, .inr (4, [.null, .null, .null, .null, .null, .null, .null, .null, .null, .null, .int 0, .int 0, .int 0]))]) := hD
  refine W.widen (k := 1) (n := 13) (by decide) (by decide) ?_
  refine lv_dup hx hb dX5_init_8 rfl ?_
  have hPc := hP.sub (ws' := [(q4, .inr (4, [.null, .null, .null, .null, .null, .null, .null, .null, .null, .null, .int 0, .int 0, .int 0]))]) [1] rfl
  have hDc := hD.sub (ws' := [(q4, .inr (4, [.null, .null, .null, .null, .null, .null, .null, .null, .null, .null, .int 0, .int 0, .int 0]))]) [1] (by decide) rfl
  have hKc := hK.sub (tys' := []) [] rfl
  have hFc := va_free (wc := [(q4, .inr (4, [.null, .null, .null, .null, .null, .null, .null, .null, .null, .null, .int 0, .int 0, .int 0]))]) hD hS hA [1] rfl
  have hc6 : 1 + 10 ≤ 95 := by decide
  have hs6 : 13 + 252 ≤ 2203 := by decide
  refine va_callv (va_runI (As := []) (rest := [.ref q4, .ref h0]) ⟨hx, hb, hml, hown, hts⟩ (c_X4_init l dC dI q4 H.size) (cwI 0 hts gX5_init_X4_init rfl rfl rfl (hts (.initialized RX4) (by decide +kernel)) (hts (.methodLink RX5 9 yX4_init) (by decide +kernel)) (hts (.instanceMethod yX4_init) (by decide +kernel)) rfl (by decide +kernel) ⟨Nat.le_of_ble_eq_true rfl, Nat.le_of_ble_eq_true rfl⟩) ⟨fun a U g mk q => by obtain ⟨q0, q1, qP, qK, qD⟩ := q; exact ⟨q0, q1, qP, va_K.moved (u := U) (U := U.calling g mk a) (Vm.Alike.refl U.vm) qK, qD⟩, fun U hU hW => ⟨rfl, by rw [hU], by rw [hU]; exact hPc, va_K.moved hW.alike hKc, hDc.weaken (fun _ _ _ _ => trivial)⟩⟩ rfl rfl hl.1 rfl (lv_room (Nat.le_of_ble_eq_true rfl)) dX5_init_9 ⟨hc6, hs6⟩) hS (fun q _ h => hFc q h) hFc (fun u t H1 locs ht hvm _ hB hz1 hk1 hS => ?_)
  obtain ⟨k6, ad6, ea6, hP1, hK1, hD1⟩ := hB
  rw [ht] at hP1
  have hK1 := va_K.moved hvm.symm hK1
  subst ea6
  obtain ⟨hP, hD⟩ := va_join (wr := [(h0, .inr (5, [.null, .null, .null, .null, .null, .null, .null, .int 0]))]) (w1 := stB k6 ad6) hP hD [1] [0] rfl rfl (by decide) (by decide) hk1 hFc hP1 hD1
  generalize H1 = H at hP hS ⊢
  have hK := hK.app hK1
  have hK := hK.sub (tys' := [(k6, .int)]) [0] rfl
  have hP : va_P (dC, dI) vwCl (([(h0, .inr (5, [.null, .null, .null, .null, .null, .null, .null, .int 0]))] ++ stB k6 ad6)) H := hP
  have hD : va_D A (([(h0, .inr (5, [.null, .null, .null, .null, .null, .null, .null, .int 0]))] ++ stB k6 ad6)) := hD
  refine va_putF (D := (dC, dI)) (ci := 5) (v := .ref (ad6 0)) (ty := .object "ConkerHeirs$State") (C := RX5) (T := TX5) (N := 8) hx hb hts (by decide +kernel) tyX5 tyX5_ok nmX5 hown hK hP hD hS 0 rfl rfl 0 (by decide) (hts (.fieldLink RX5 10 "ConkerHeirs" "now" "LConkerHeirs$State;") (by decide +kernel)) (fun _ h9 => h9) rfl hin rfl (by decide +kernel) rfl rfl (Nat.le_of_ble_eq_true rfl) dX5_init_12 (fun H locs hP hD hS => ?_)
  have hP : va_P (dC, dI) vwCl (([(h0, .inr (5, [.ref (ad6 0), .null, .null, .null, .null, .null, .null, .int 0]))] ++ stB k6 ad6)) H := hP
  have hD : va_D A (([(h0, .inr (5, [.ref (ad6 0), .null, .null, .null, .null, .null, .null, .int 0]))] ++ stB k6 ad6)) := hD
  refine lv_aload_n hx hb dX5_init_15 rfl (lv_at hl 0 rfl) ?_
  have hc9 : 11 + 1 ≤ 95 := by decide
  have hs9 : 265 + 13 ≤ 2203 := by decide
  refine va_new (ci := 4) (fs := [.null, .null, .null, .null, .null, .null, .null, .null, .null, .null, .int 0, .int 0, .int 0]) (C := RX4) (T := TX4) (N := 13) hx hb hts (by decide +kernel) tyX4 tyX4_ok hown (hts (.classLink RX5 7 RX4) (by decide +kernel)) (hts (.instantiable RX4 13) (by decide +kernel)) (hts (.initialized RX4) (by decide +kernel)) hK hP hD hS hA rfl (fun j hj => by rcases (show j = 0 ∨ j = 1 ∨ j = 2 ∨ j = 3 ∨ j = 4 ∨ j = 5 ∨ j = 6 ∨ j = 7 ∨ j = 8 ∨ j = 9 ∨ j = 10 ∨ j = 11 ∨ j = 12 by omega) with rfl | rfl | rfl | rfl | rfl | rfl | rfl | rfl | rfl | rfl | rfl | rfl | rfl <;> rfl) hc9 hs9 dX5_init_16 (fun q9 H hP hD hS => ?_)
  have hP : va_P (dC, dI) vwCl ((([(h0, .inr (5, [.ref (ad6 0), .null, .null, .null, .null, .null, .null, .int 0]))] ++ stB k6 ad6) ++ [(q9, .inr (4, [.null, .null, .null, .null, .null, .null, .null, .null, .null, .null, .int 0, .int 0, .int 0]))])) H := hP
  have hD : va_D A ((([(h0, .inr (5, [.ref (ad6 0), .null, .null, .null, .null, .null, .null, .int 0]))] ++ stB k6 ad6) ++ [(q9, .inr (4, [.null, .null, .null, .null, .null, .null, .null, .null, .null, .null, .int 0, .int 0, .int 0]))])) := hD
  refine W.widen (k := 12) (n := 278) (by decide) (by decide) ?_
  refine lv_dup hx hb dX5_init_19 rfl ?_
  have hPc := hP.sub (ws' := [(q9, .inr (4, [.null, .null, .null, .null, .null, .null, .null, .null, .null, .null, .int 0, .int 0, .int 0]))]) [12] rfl
  have hDc := hD.sub (ws' := [(q9, .inr (4, [.null, .null, .null, .null, .null, .null, .null, .null, .null, .null, .int 0, .int 0, .int 0]))]) [12] (by decide) rfl
  have hKc := hK.sub (tys' := []) [] rfl
  have hFc := va_free (wc := [(q9, .inr (4, [.null, .null, .null, .null, .null, .null, .null, .null, .null, .null, .int 0, .int 0, .int 0]))]) hD hS hA [12] rfl
  have hc11 : 12 + 10 ≤ 95 := by decide
  have hs11 : 278 + 252 ≤ 2203 := by decide
  refine va_callv (va_runI (As := []) (rest := [.ref q9, .ref h0]) ⟨hx, hb, hml, hown, hts⟩ (c_X4_init l dC dI q9 H.size) (cwI 0 hts gX5_init_X4_init rfl rfl rfl (hts (.initialized RX4) (by decide +kernel)) (hts (.methodLink RX5 9 yX4_init) (by decide +kernel)) (hts (.instanceMethod yX4_init) (by decide +kernel)) rfl (by decide +kernel) ⟨Nat.le_of_ble_eq_true rfl, Nat.le_of_ble_eq_true rfl⟩) ⟨fun a U g mk q => by obtain ⟨q0, q1, qP, qK, qD⟩ := q; exact ⟨q0, q1, qP, va_K.moved (u := U) (U := U.calling g mk a) (Vm.Alike.refl U.vm) qK, qD⟩, fun U hU hW => ⟨rfl, by rw [hU], by rw [hU]; exact hPc, va_K.moved hW.alike hKc, hDc.weaken (fun _ _ _ _ => trivial)⟩⟩ rfl rfl hl.1 rfl (lv_room (Nat.le_of_ble_eq_true rfl)) dX5_init_20 ⟨hc11, hs11⟩) hS (fun q _ h => hFc q h) hFc (fun u t H1 locs ht hvm _ hB hz1 hk1 hS => ?_)
  obtain ⟨k11, ad11, ea11, hP1, hK1, hD1⟩ := hB
  rw [ht] at hP1
  have hK1 := va_K.moved hvm.symm hK1
  subst ea11
  obtain ⟨hP, hD⟩ := va_join (wr := ([(h0, .inr (5, [.ref (ad6 0), .null, .null, .null, .null, .null, .null, .int 0]))] ++ stB k6 ad6)) (w1 := stB k11 ad11) hP hD [12] [0, 1, 2, 3, 4, 5, 6, 7, 8, 9, 10, 11] rfl rfl (by decide) (by decide) hk1 hFc hP1 hD1
  generalize H1 = H at hP hS ⊢
  have hK := hK.app hK1
  have e11_1 : k6 = k11 := kb_one hK 0 1 rfl rfl
  subst e11_1
  have hK := hK.sub (tys' := [(k6, .int)]) [0] rfl
  have hP : va_P (dC, dI) vwCl ((([(h0, .inr (5, [.ref (ad6 0), .null, .null, .null, .null, .null, .null, .int 0]))] ++ stB k6 ad6) ++ stB k6 ad11)) H := hP
  have hD : va_D A ((([(h0, .inr (5, [.ref (ad6 0), .null, .null, .null, .null, .null, .null, .int 0]))] ++ stB k6 ad6) ++ stB k6 ad11)) := hD
  refine va_putF (D := (dC, dI)) (ci := 5) (v := .ref (ad11 0)) (ty := .object "ConkerHeirs$State") (C := RX5) (T := TX5) (N := 8) hx hb hts (by decide +kernel) tyX5 tyX5_ok nmX5 hown hK hP hD hS 0 rfl rfl 1 (by decide) (hts (.fieldLink RX5 16 "ConkerHeirs" "snapshot" "LConkerHeirs$State;") (by decide +kernel)) (fun _ h9 => h9) rfl hin rfl (by decide +kernel) rfl rfl (Nat.le_of_ble_eq_true rfl) dX5_init_23 (fun H locs hP hD hS => ?_)
  have hP : va_P (dC, dI) vwCl ((([(h0, .inr (5, [.ref (ad6 0), .ref (ad11 0), .null, .null, .null, .null, .null, .int 0]))] ++ stB k6 ad6) ++ stB k6 ad11)) H := hP
  have hD : va_D A ((([(h0, .inr (5, [.ref (ad6 0), .ref (ad11 0), .null, .null, .null, .null, .null, .int 0]))] ++ stB k6 ad6) ++ stB k6 ad11)) := hD
  refine lv_aload_n hx hb dX5_init_26 rfl (lv_at hl 0 rfl) ?_
  have hc14 : 22 + 1 ≤ 95 := by decide
  have hs14 : 530 + 13 ≤ 2203 := by decide
  refine va_new (ci := 4) (fs := [.null, .null, .null, .null, .null, .null, .null, .null, .null, .null, .int 0, .int 0, .int 0]) (C := RX4) (T := TX4) (N := 13) hx hb hts (by decide +kernel) tyX4 tyX4_ok hown (hts (.classLink RX5 7 RX4) (by decide +kernel)) (hts (.instantiable RX4 13) (by decide +kernel)) (hts (.initialized RX4) (by decide +kernel)) hK hP hD hS hA rfl (fun j hj => by rcases (show j = 0 ∨ j = 1 ∨ j = 2 ∨ j = 3 ∨ j = 4 ∨ j = 5 ∨ j = 6 ∨ j = 7 ∨ j = 8 ∨ j = 9 ∨ j = 10 ∨ j = 11 ∨ j = 12 by omega) with rfl | rfl | rfl | rfl | rfl | rfl | rfl | rfl | rfl | rfl | rfl | rfl | rfl <;> rfl) hc14 hs14 dX5_init_27 (fun q14 H hP hD hS => ?_)
  have hP : va_P (dC, dI) vwCl (((([(h0, .inr (5, [.ref (ad6 0), .ref (ad11 0), .null, .null, .null, .null, .null, .int 0]))] ++ stB k6 ad6) ++ stB k6 ad11) ++ [(q14, .inr (4, [.null, .null, .null, .null, .null, .null, .null, .null, .null, .null, .int 0, .int 0, .int 0]))])) H := hP
  have hD : va_D A (((([(h0, .inr (5, [.ref (ad6 0), .ref (ad11 0), .null, .null, .null, .null, .null, .int 0]))] ++ stB k6 ad6) ++ stB k6 ad11) ++ [(q14, .inr (4, [.null, .null, .null, .null, .null, .null, .null, .null, .null, .null, .int 0, .int 0, .int 0]))])) := hD
  refine W.widen (k := 23) (n := 543) (by decide) (by decide) ?_
  refine lv_dup hx hb dX5_init_30 rfl ?_
  have hPc := hP.sub (ws' := [(q14, .inr (4, [.null, .null, .null, .null, .null, .null, .null, .null, .null, .null, .int 0, .int 0, .int 0]))]) [23] rfl
  have hDc := hD.sub (ws' := [(q14, .inr (4, [.null, .null, .null, .null, .null, .null, .null, .null, .null, .null, .int 0, .int 0, .int 0]))]) [23] (by decide) rfl
  have hKc := hK.sub (tys' := []) [] rfl
  have hFc := va_free (wc := [(q14, .inr (4, [.null, .null, .null, .null, .null, .null, .null, .null, .null, .null, .int 0, .int 0, .int 0]))]) hD hS hA [23] rfl
  have hc16 : 23 + 10 ≤ 95 := by decide
  have hs16 : 543 + 252 ≤ 2203 := by decide
  refine va_callv (va_runI (As := []) (rest := [.ref q14, .ref h0]) ⟨hx, hb, hml, hown, hts⟩ (c_X4_init l dC dI q14 H.size) (cwI 0 hts gX5_init_X4_init rfl rfl rfl (hts (.initialized RX4) (by decide +kernel)) (hts (.methodLink RX5 9 yX4_init) (by decide +kernel)) (hts (.instanceMethod yX4_init) (by decide +kernel)) rfl (by decide +kernel) ⟨Nat.le_of_ble_eq_true rfl, Nat.le_of_ble_eq_true rfl⟩) ⟨fun a U g mk q => by obtain ⟨q0, q1, qP, qK, qD⟩ := q; exact ⟨q0, q1, qP, va_K.moved (u := U) (U := U.calling g mk a) (Vm.Alike.refl U.vm) qK, qD⟩, fun U hU hW => ⟨rfl, by rw [hU], by rw [hU]; exact hPc, va_K.moved hW.alike hKc, hDc.weaken (fun _ _ _ _ => trivial)⟩⟩ rfl rfl hl.1 rfl (lv_room (Nat.le_of_ble_eq_true rfl)) dX5_init_31 ⟨hc16, hs16⟩) hS (fun q _ h => hFc q h) hFc (fun u t H1 locs ht hvm _ hB hz1 hk1 hS => ?_)
  obtain ⟨k16, ad16, ea16, hP1, hK1, hD1⟩ := hB
  rw [ht] at hP1
  have hK1 := va_K.moved hvm.symm hK1
  subst ea16
  obtain ⟨hP, hD⟩ := va_join (wr := (([(h0, .inr (5, [.ref (ad6 0), .ref (ad11 0), .null, .null, .null, .null, .null, .int 0]))] ++ stB k6 ad6) ++ stB k6 ad11)) (w1 := stB k16 ad16) hP hD [23] [0, 1, 2, 3, 4, 5, 6, 7, 8, 9, 10, 11, 12, 13, 14, 15, 16, 17, 18, 19, 20, 21, 22] rfl rfl (by decide) (by decide) hk1 hFc hP1 hD1
  generalize H1 = H at hP hS ⊢
  have hK := hK.app hK1
  have e16_1 : k6 = k16 := kb_one hK 0 1 rfl rfl
  subst e16_1
  have hK := hK.sub (tys' := [(k6, .int)]) [0] rfl
  have hP : va_P (dC, dI) vwCl (((([(h0, .inr (5, [.ref (ad6 0), .ref (ad11 0), .null, .null, .null, .null, .null, .int 0]))] ++ stB k6 ad6) ++ stB k6 ad11) ++ stB k6 ad16)) H := hP
  have hD : va_D A (((([(h0, .inr (5, [.ref (ad6 0), .ref (ad11 0), .null, .null, .null, .null, .null, .int 0]))] ++ stB k6 ad6) ++ stB k6 ad11) ++ stB k6 ad16)) := hD
  refine va_putF (D := (dC, dI)) (ci := 5) (v := .ref (ad16 0)) (ty := .object "ConkerHeirs$State") (C := RX5) (T := TX5) (N := 8) hx hb hts (by decide +kernel) tyX5 tyX5_ok nmX5 hown hK hP hD hS 0 rfl rfl 2 (by decide) (hts (.fieldLink RX5 19 "ConkerHeirs" "trial" "LConkerHeirs$State;") (by decide +kernel)) (fun _ h9 => h9) rfl hin rfl (by decide +kernel) rfl rfl (Nat.le_of_ble_eq_true rfl) dX5_init_34 (fun H locs hP hD hS => ?_)
  have hP : va_P (dC, dI) vwCl (((([(h0, .inr (5, [.ref (ad6 0), .ref (ad11 0), .ref (ad16 0), .null, .null, .null, .null, .int 0]))] ++ stB k6 ad6) ++ stB k6 ad11) ++ stB k6 ad16)) H := hP
  have hD : va_D A (((([(h0, .inr (5, [.ref (ad6 0), .ref (ad11 0), .ref (ad16 0), .null, .null, .null, .null, .int 0]))] ++ stB k6 ad6) ++ stB k6 ad11) ++ stB k6 ad16)) := hD
  refine lv_aload_n hx hb dX5_init_37 rfl (lv_at hl 0 rfl) ?_
  have hc19 : 33 + 1 ≤ 95 := by decide
  have hs19 : 795 + 2 ≤ 2203 := by decide
  refine va_new (ci := 1) (fs := [.null, .int 0]) (C := RX1) (T := TX1) (N := 2) hx hb hts (by decide +kernel) tyX1 tyX1_ok hown (hts (.classLink RX5 22 RX1) (by decide +kernel)) (hts (.instantiable RX1 2) (by decide +kernel)) (hts (.initialized RX1) (by decide +kernel)) hK hP hD hS hA rfl (fun j hj => by rcases (show j = 0 ∨ j = 1 by omega) with rfl | rfl <;> rfl) hc19 hs19 dX5_init_38 (fun q19 H hP hD hS => ?_)
  have hP : va_P (dC, dI) vwCl ((((([(h0, .inr (5, [.ref (ad6 0), .ref (ad11 0), .ref (ad16 0), .null, .null, .null, .null, .int 0]))] ++ stB k6 ad6) ++ stB k6 ad11) ++ stB k6 ad16) ++ [(q19, .inr (1, [.null, .int 0]))])) H := hP
  have hD : va_D A ((((([(h0, .inr (5, [.ref (ad6 0), .ref (ad11 0), .ref (ad16 0), .null, .null, .null, .null, .int 0]))] ++ stB k6 ad6) ++ stB k6 ad11) ++ stB k6 ad16) ++ [(q19, .inr (1, [.null, .int 0]))])) := hD
  refine W.widen (k := 34) (n := 797) (by decide) (by decide) ?_
  refine lv_dup hx hb dX5_init_41 rfl ?_
  have hPc := hP.sub (ws' := [(q19, .inr (1, [.null, .int 0]))]) [34] rfl
  have hDc := hD.sub (ws' := [(q19, .inr (1, [.null, .int 0]))]) [34] (by decide) rfl
  have hKc := hK.sub (tys' := []) [] rfl
  have hFc := va_free (wc := [(q19, .inr (1, [.null, .int 0]))]) hD hS hA [34] rfl
  have hc21 : 34 + 56 ≤ 95 := by decide
  have hs21 : 797 + 1330 ≤ 2203 := by decide
  refine va_callv (va_runI (As := []) (rest := [.ref q19, .ref h0]) ⟨hx, hb, hml, hown, hts⟩ (c_X1_init l dC dI q19 H.size) (cwI 0 hts gX5_init_X1_init rfl rfl rfl (hts (.initialized RX1) (by decide +kernel)) (hts (.methodLink RX5 24 yX1_init) (by decide +kernel)) (hts (.instanceMethod yX1_init) (by decide +kernel)) rfl (by decide +kernel) ⟨Nat.le_of_ble_eq_true rfl, Nat.le_of_ble_eq_true rfl⟩) ⟨fun a U g mk q => by obtain ⟨q0, q1, qP, qK, qD, hy0⟩ := q; exact ⟨q0, q1, qP, va_K.moved (u := U) (U := U.calling g mk a) (Vm.Alike.refl U.vm) qK, qD, va_AO.moved (u := U) (U := U.calling g mk a) (Vm.Alike.refl U.vm) hy0⟩, fun U hU hW => ⟨rfl, by rw [hU], by rw [hU]; exact hPc, va_K.moved hW.alike hKc, hDc.weaken (fun _ _ _ _ => trivial), va_AO.moved hW.alike hn0⟩⟩ rfl rfl hl.1 rfl (lv_room (Nat.le_of_ble_eq_true rfl)) dX5_init_42 ⟨hc21, hs21⟩) hS (fun q _ h => hFc q h) hFc (fun u t H1 locs ht hvm _ hB hz1 hk1 hS => ?_)
  obtain ⟨k21, r21, p21, b4, b5, b6, b7, b8, hP1, hK1, hD1⟩ := hB
  rw [ht] at hP1
  have hK1 := va_K.moved hvm.symm hK1
  obtain ⟨hP, hD⟩ := va_join (wr := ((([(h0, .inr (5, [.ref (ad6 0), .ref (ad11 0), .ref (ad16 0), .null, .null, .null, .null, .int 0]))] ++ stB k6 ad6) ++ stB k6 ad11) ++ stB k6 ad16)) (w1 := hisB r21 k21 q19 p21 b4 b5 b6 b7 b8) hP hD [34] [0, 1, 2, 3, 4, 5, 6, 7, 8, 9, 10, 11, 12, 13, 14, 15, 16, 17, 18, 19, 20, 21, 22, 23, 24, 25, 26, 27, 28, 29, 30, 31, 32, 33] rfl rfl (by decide) (by decide) hk1 hFc hP1 hD1
  generalize H1 = H at hP hS ⊢
  have hK := hK.app hK1
  have e21_1 : k6 = k21 := kb_one hK 0 1 rfl rfl
  subst e21_1
  have hK := hK.sub (tys' := [(k6, .int), (r21, .object RX4)]) [0, 2] rfl
  have hP : va_P (dC, dI) vwCl ((((([(h0, .inr (5, [.ref (ad6 0), .ref (ad11 0), .ref (ad16 0), .null, .null, .null, .null, .int 0]))] ++ stB k6 ad6) ++ stB k6 ad11) ++ stB k6 ad16) ++ hisB r21 k6 q19 p21 b4 b5 b6 b7 b8)) H := hP
  have hD : va_D A ((((([(h0, .inr (5, [.ref (ad6 0), .ref (ad11 0), .ref (ad16 0), .null, .null, .null, .null, .int 0]))] ++ stB k6 ad6) ++ stB k6 ad11) ++ stB k6 ad16) ++ hisB r21 k6 q19 p21 b4 b5 b6 b7 b8)) := hD
  refine va_putF (D := (dC, dI)) (ci := 5) (v := .ref q19) (ty := .object "ConkerHeirs$History") (C := RX5) (T := TX5) (N := 8) hx hb hts (by decide +kernel) tyX5 tyX5_ok nmX5 hown hK hP hD hS 0 rfl rfl 3 (by decide) (hts (.fieldLink RX5 25 "ConkerHeirs" "history" "LConkerHeirs$History;") (by decide +kernel)) (fun _ h9 => h9) rfl hin rfl (by decide +kernel) rfl rfl (Nat.le_of_ble_eq_true rfl) dX5_init_45 (fun H locs hP hD hS => ?_)
  have hP : va_P (dC, dI) vwCl ((((([(h0, .inr (5, [.ref (ad6 0), .ref (ad11 0), .ref (ad16 0), .ref q19, .null, .null, .null, .int 0]))] ++ stB k6 ad6) ++ stB k6 ad11) ++ stB k6 ad16) ++ hisB r21 k6 q19 p21 b4 b5 b6 b7 b8)) H := hP
  have hD : va_D A ((((([(h0, .inr (5, [.ref (ad6 0), .ref (ad11 0), .ref (ad16 0), .ref q19, .null, .null, .null, .int 0]))] ++ stB k6 ad6) ++ stB k6 ad11) ++ stB k6 ad16) ++ hisB r21 k6 q19 p21 b4 b5 b6 b7 b8)) := hD
  refine lv_aload_n hx hb dX5_init_48 rfl (lv_at hl 0 rfl) ?_
  have hc24 : 90 + 1 ≤ 95 := by decide
  have hs24 : 2127 + 7 ≤ 2203 := by decide
  refine va_new (ci := 3) (fs := [.null, .int 0, .int 0, .int 0, .int 0, .int 0, .int 0]) (C := RX3) (T := TX3) (N := 7) hx hb hts (by decide +kernel) tyX3 tyX3_ok hown (hts (.classLink RX5 29 RX3) (by decide +kernel)) (hts (.instantiable RX3 7) (by decide +kernel)) (hts (.initialized RX3) (by decide +kernel)) hK hP hD hS hA rfl (fun j hj => by rcases (show j = 0 ∨ j = 1 ∨ j = 2 ∨ j = 3 ∨ j = 4 ∨ j = 5 ∨ j = 6 by omega) with rfl | rfl | rfl | rfl | rfl | rfl | rfl <;> rfl) hc24 hs24 dX5_init_49 (fun q24 H hP hD hS => ?_)
  have hP : va_P (dC, dI) vwCl (((((([(h0, .inr (5, [.ref (ad6 0), .ref (ad11 0), .ref (ad16 0), .ref q19, .null, .null, .null, .int 0]))] ++ stB k6 ad6) ++ stB k6 ad11) ++ stB k6 ad16) ++ hisB r21 k6 q19 p21 b4 b5 b6 b7 b8) ++ [(q24, .inr (3, [.null, .int 0, .int 0, .int 0, .int 0, .int 0, .int 0]))])) H := hP
  have hD : va_D A (((((([(h0, .inr (5, [.ref (ad6 0), .ref (ad11 0), .ref (ad16 0), .ref q19, .null, .null, .null, .int 0]))] ++ stB k6 ad6) ++ stB k6 ad11) ++ stB k6 ad16) ++ hisB r21 k6 q19 p21 b4 b5 b6 b7 b8) ++ [(q24, .inr (3, [.null, .int 0, .int 0, .int 0, .int 0, .int 0, .int 0]))])) := hD
  refine W.widen (k := 91) (n := 2134) (by decide) (by decide) ?_
  refine lv_dup hx hb dX5_init_52 rfl ?_
  have hPc := hP.sub (ws' := [(q24, .inr (3, [.null, .int 0, .int 0, .int 0, .int 0, .int 0, .int 0]))]) [91] rfl
  have hDc := hD.sub (ws' := [(q24, .inr (3, [.null, .int 0, .int 0, .int 0, .int 0, .int 0, .int 0]))]) [91] (by decide) rfl
  have hKc := hK.sub (tys' := []) [] rfl
  have hFc := va_free (wc := [(q24, .inr (3, [.null, .int 0, .int 0, .int 0, .int 0, .int 0, .int 0]))]) hD hS hA [91] rfl
  have hc26 : 91 + 1 ≤ 95 := by decide
  have hs26 : 2134 + 60 ≤ 2203 := by decide
  refine va_callv (va_runIN (host := "ConkerHeirs") (As := []) (rest := [.ref q24, .ref h0]) ⟨hx, hb, hml, hown, hts⟩ (c_X3_init l dC dI q24 H.size) ⟨va_cnB 0 hts gX5_init_X3_init_n31 rfl rfl rfl hn1 (hts (.initialized RX3) (by decide +kernel)) (by decide +kernel) ⟨Nat.le_of_ble_eq_true rfl, Nat.le_of_ble_eq_true rfl⟩, rfl, hts (.instanceMethod yX3_init) (by decide +kernel)⟩ ⟨fun a U g mk q => by obtain ⟨q0, q1, qP, qK, qD⟩ := q; exact ⟨q0, q1, qP, va_K.moved (u := U) (U := U.calling g mk a) (Vm.Alike.refl U.vm) qK, qD⟩, fun U hU hW => ⟨rfl, by rw [hU], by rw [hU]; exact hPc, va_K.moved hW.alike hKc, hDc.weaken (fun _ _ _ _ => trivial)⟩⟩ rfl rfl hl.1 rfl (lv_room (Nat.le_of_ble_eq_true rfl)) dX5_init_53 ⟨hc26, hs26⟩) hS (fun q _ h => hFc q h) hFc (fun u t H1 locs ht hvm _ hB hz1 hk1 hS => ?_)
  obtain ⟨k26, p26, hP1, hK1, hD1⟩ := hB
  rw [ht] at hP1
  have hK1 := va_K.moved hvm.symm hK1
  obtain ⟨hP, hD⟩ := va_join (wr := (((([(h0, .inr (5, [.ref (ad6 0), .ref (ad11 0), .ref (ad16 0), .ref q19, .null, .null, .null, .int 0]))] ++ stB k6 ad6) ++ stB k6 ad11) ++ stB k6 ad16) ++ hisB r21 k6 q19 p21 b4 b5 b6 b7 b8)) (w1 := scrB k26 q24 p26) hP hD [91] [0, 1, 2, 3, 4, 5, 6, 7, 8, 9, 10, 11, 12, 13, 14, 15, 16, 17, 18, 19, 20, 21, 22, 23, 24, 25, 26, 27, 28, 29, 30, 31, 32, 33, 34, 35, 36, 37, 38, 39, 40, 41, 42, 43, 44, 45, 46, 47, 48, 49, 50, 51, 52, 53, 54, 55, 56, 57, 58, 59, 60, 61, 62, 63, 64, 65, 66, 67, 68, 69, 70, 71, 72, 73, 74, 75, 76, 77, 78, 79, 80, 81, 82, 83, 84, 85, 86, 87, 88, 89, 90] rfl rfl (by decide) (by decide) hk1 hFc hP1 hD1
  generalize H1 = H at hP hS ⊢
  have hK := hK.app hK1
  have hK := hK.sub (tys' := [(k6, .int), (r21, .object RX4), (k26, .char)]) [0, 1, 2] rfl
  have hP : va_P (dC, dI) vwCl (((((([(h0, .inr (5, [.ref (ad6 0), .ref (ad11 0), .ref (ad16 0), .ref q19, .null, .null, .null, .int 0]))] ++ stB k6 ad6) ++ stB k6 ad11) ++ stB k6 ad16) ++ hisB r21 k6 q19 p21 b4 b5 b6 b7 b8) ++ scrB k26 q24 p26)) H := hP
  have hD : va_D A (((((([(h0, .inr (5, [.ref (ad6 0), .ref (ad11 0), .ref (ad16 0), .ref q19, .null, .null, .null, .int 0]))] ++ stB k6 ad6) ++ stB k6 ad11) ++ stB k6 ad16) ++ hisB r21 k6 q19 p21 b4 b5 b6 b7 b8) ++ scrB k26 q24 p26)) := hD
  refine va_putF (D := (dC, dI)) (ci := 5) (v := .ref q24) (ty := .object "ConkerHeirs$Script") (C := RX5) (T := TX5) (N := 8) hx hb hts (by decide +kernel) tyX5 tyX5_ok nmX5 hown hK hP hD hS 0 rfl rfl 4 (by decide) (hts (.fieldLink RX5 32 "ConkerHeirs" "script" "LConkerHeirs$Script;") (by decide +kernel)) (fun _ h9 => h9) rfl hin rfl (by decide +kernel) rfl rfl (Nat.le_of_ble_eq_true rfl) dX5_init_56 (fun H locs hP hD hS => ?_)
  have hP : va_P (dC, dI) vwCl (((((([(h0, .inr (5, [.ref (ad6 0), .ref (ad11 0), .ref (ad16 0), .ref q19, .ref q24, .null, .null, .int 0]))] ++ stB k6 ad6) ++ stB k6 ad11) ++ stB k6 ad16) ++ hisB r21 k6 q19 p21 b4 b5 b6 b7 b8) ++ scrB k26 q24 p26)) H := hP
  have hD : va_D A (((((([(h0, .inr (5, [.ref (ad6 0), .ref (ad11 0), .ref (ad16 0), .ref q19, .ref q24, .null, .null, .int 0]))] ++ stB k6 ad6) ++ stB k6 ad11) ++ stB k6 ad16) ++ hisB r21 k6 q19 p21 b4 b5 b6 b7 b8) ++ scrB k26 q24 p26)) := hD
  refine lv_aload_n hx hb dX5_init_59 rfl (lv_at hl 0 rfl) ?_
  have hc29 : 92 + 1 ≤ 95 := by decide
  have hs29 : 2194 + 1 ≤ 2203 := by decide
  refine va_new (ci := 0) (fs := [.int 0]) (C := RX0) (T := TX0) (N := 1) hx hb hts (by decide +kernel) tyX0 tyX0_ok hown (hts (.classLink RX5 36 RX0) (by decide +kernel)) (hts (.instantiable RX0 1) (by decide +kernel)) (hts (.initialized RX0) (by decide +kernel)) hK hP hD hS hA rfl (fun j hj => by rcases (show j = 0 by omega) with rfl <;> rfl) hc29 hs29 dX5_init_60 (fun q29 H hP hD hS => ?_)
  have hP : va_P (dC, dI) vwCl ((((((([(h0, .inr (5, [.ref (ad6 0), .ref (ad11 0), .ref (ad16 0), .ref q19, .ref q24, .null, .null, .int 0]))] ++ stB k6 ad6) ++ stB k6 ad11) ++ stB k6 ad16) ++ hisB r21 k6 q19 p21 b4 b5 b6 b7 b8) ++ scrB k26 q24 p26) ++ [(q29, .inr (0, [.int 0]))])) H := hP
  have hD : va_D A ((((((([(h0, .inr (5, [.ref (ad6 0), .ref (ad11 0), .ref (ad16 0), .ref q19, .ref q24, .null, .null, .int 0]))] ++ stB k6 ad6) ++ stB k6 ad11) ++ stB k6 ad16) ++ hisB r21 k6 q19 p21 b4 b5 b6 b7 b8) ++ scrB k26 q24 p26) ++ [(q29, .inr (0, [.int 0]))])) := hD
  refine W.widen (k := 93) (n := 2195) (by decide) (by decide) ?_
  refine lv_dup hx hb dX5_init_63 rfl ?_
  have hPc := hP.sub (ws' := [(q29, .inr (0, [.int 0]))]) [93] rfl
  have hDc := hD.sub (ws' := [(q29, .inr (0, [.int 0]))]) [93] (by decide) rfl
  have hKc := hK.sub (tys' := []) [] rfl
  have hFc := va_free (wc := [(q29, .inr (0, [.int 0]))]) hD hS hA [93] rfl
  have hc31 : 93 + 0 ≤ 95 := by decide
  have hs31 : 2195 + 0 ≤ 2203 := by decide
  refine va_callv (va_runIN (host := "ConkerHeirs") (As := []) (rest := [.ref q29, .ref h0]) ⟨hx, hb, hml, hown, hts⟩ (c_X0_init l dC dI q29 H.size) ⟨va_cnB 0 hts gX5_init_X0_init_n38 rfl rfl rfl hn2 (hts (.initialized RX0) (by decide +kernel)) (by decide +kernel) ⟨Nat.le_of_ble_eq_true rfl, Nat.le_of_ble_eq_true rfl⟩, rfl, hts (.instanceMethod yX0_init) (by decide +kernel)⟩ ⟨fun a U g mk q => by obtain ⟨q0, q1, qP, qK, qD⟩ := q; exact ⟨q0, q1, qP, va_K.moved (u := U) (U := U.calling g mk a) (Vm.Alike.refl U.vm) qK, qD⟩, fun U hU hW => ⟨rfl, by rw [hU], by rw [hU]; exact hPc, va_K.moved hW.alike hKc, hDc.weaken (fun _ _ _ _ => trivial)⟩⟩ rfl rfl hl.1 rfl (lv_room (Nat.le_of_ble_eq_true rfl)) dX5_init_64 ⟨hc31, hs31⟩) hS (fun q _ h => hFc q h) hFc (fun u t H1 locs ht hvm _ hB hz1 hk1 hS => ?_)
  obtain ⟨hP1, hK1, hD1⟩ := hB
  rw [ht] at hP1
  have hK1 := va_K.moved hvm.symm hK1
  obtain ⟨hP, hD⟩ := va_join (wr := ((((([(h0, .inr (5, [.ref (ad6 0), .ref (ad11 0), .ref (ad16 0), .ref q19, .ref q24, .null, .null, .int 0]))] ++ stB k6 ad6) ++ stB k6 ad11) ++ stB k6 ad16) ++ hisB r21 k6 q19 p21 b4 b5 b6 b7 b8) ++ scrB k26 q24 p26)) (w1 := [(q29, .inr (0, [.int 0]))]) hP hD [93] [0, 1, 2, 3, 4, 5, 6, 7, 8, 9, 10, 11, 12, 13, 14, 15, 16, 17, 18, 19, 20, 21, 22, 23, 24, 25, 26, 27, 28, 29, 30, 31, 32, 33, 34, 35, 36, 37, 38, 39, 40, 41, 42, 43, 44, 45, 46, 47, 48, 49, 50, 51, 52, 53, 54, 55, 56, 57, 58, 59, 60, 61, 62, 63, 64, 65, 66, 67, 68, 69, 70, 71, 72, 73, 74, 75, 76, 77, 78, 79, 80, 81, 82, 83, 84, 85, 86, 87, 88, 89, 90, 91, 92] rfl rfl (by decide) (by decide) hk1 hFc hP1 hD1
  generalize H1 = H at hP hS ⊢
  have hK := hK.app hK1
  have hK := hK.sub (tys' := [(k6, .int), (r21, .object RX4), (k26, .char)]) [0, 1, 2] rfl
  have hP : va_P (dC, dI) vwCl ((((((([(h0, .inr (5, [.ref (ad6 0), .ref (ad11 0), .ref (ad16 0), .ref q19, .ref q24, .null, .null, .int 0]))] ++ stB k6 ad6) ++ stB k6 ad11) ++ stB k6 ad16) ++ hisB r21 k6 q19 p21 b4 b5 b6 b7 b8) ++ scrB k26 q24 p26) ++ [(q29, .inr (0, [.int 0]))])) H := hP
  have hD : va_D A ((((((([(h0, .inr (5, [.ref (ad6 0), .ref (ad11 0), .ref (ad16 0), .ref q19, .ref q24, .null, .null, .int 0]))] ++ stB k6 ad6) ++ stB k6 ad11) ++ stB k6 ad16) ++ hisB r21 k6 q19 p21 b4 b5 b6 b7 b8) ++ scrB k26 q24 p26) ++ [(q29, .inr (0, [.int 0]))])) := hD
  refine va_putF (D := (dC, dI)) (ci := 5) (v := .ref q29) (ty := .object "ConkerHeirs$Draws") (C := RX5) (T := TX5) (N := 8) hx hb hts (by decide +kernel) tyX5 tyX5_ok nmX5 hown hK hP hD hS 0 rfl rfl 5 (by decide) (hts (.fieldLink RX5 39 "ConkerHeirs" "draws" "LConkerHeirs$Draws;") (by decide +kernel)) (fun _ h9 => h9) rfl hin rfl (by decide +kernel) rfl rfl (Nat.le_of_ble_eq_true rfl) dX5_init_67 (fun H locs hP hD hS => ?_)
  have hP : va_P (dC, dI) vwCl ((((((([(h0, .inr (5, [.ref (ad6 0), .ref (ad11 0), .ref (ad16 0), .ref q19, .ref q24, .ref q29, .null, .int 0]))] ++ stB k6 ad6) ++ stB k6 ad11) ++ stB k6 ad16) ++ hisB r21 k6 q19 p21 b4 b5 b6 b7 b8) ++ scrB k26 q24 p26) ++ [(q29, .inr (0, [.int 0]))])) H := hP
  have hD : va_D A ((((((([(h0, .inr (5, [.ref (ad6 0), .ref (ad11 0), .ref (ad16 0), .ref q19, .ref q24, .ref q29, .null, .int 0]))] ++ stB k6 ad6) ++ stB k6 ad11) ++ stB k6 ad16) ++ hisB r21 k6 q19 p21 b4 b5 b6 b7 b8) ++ scrB k26 q24 p26) ++ [(q29, .inr (0, [.int 0]))])) := hD
  refine lv_aload_n hx hb dX5_init_70 rfl (lv_at hl 0 rfl) ?_
  have hc34 : 93 + 1 ≤ 95 := by decide
  have hs34 : 2195 + 2 ≤ 2203 := by decide
  refine va_new (ci := 2) (fs := [.null, .int 0]) (C := RX2) (T := TX2) (N := 2) hx hb hts (by decide +kernel) tyX2 tyX2_ok hown (hts (.classLink RX5 43 RX2) (by decide +kernel)) (hts (.instantiable RX2 2) (by decide +kernel)) (hts (.initialized RX2) (by decide +kernel)) hK hP hD hS hA rfl (fun j hj => by rcases (show j = 0 ∨ j = 1 by omega) with rfl | rfl <;> rfl) hc34 hs34 dX5_init_71 (fun q34 H hP hD hS => ?_)
  have hP : va_P (dC, dI) vwCl ((((((([(h0, .inr (5, [.ref (ad6 0), .ref (ad11 0), .ref (ad16 0), .ref q19, .ref q24, .ref q29, .null, .int 0]))] ++ stB k6 ad6) ++ stB k6 ad11) ++ stB k6 ad16) ++ hisB r21 k6 q19 p21 b4 b5 b6 b7 b8) ++ scrB k26 q24 p26) ++ [(q29, .inr (0, [.int 0])), (q34, .inr (2, [.null, .int 0]))])) H := hP
  have hD : va_D A ((((((([(h0, .inr (5, [.ref (ad6 0), .ref (ad11 0), .ref (ad16 0), .ref q19, .ref q24, .ref q29, .null, .int 0]))] ++ stB k6 ad6) ++ stB k6 ad11) ++ stB k6 ad16) ++ hisB r21 k6 q19 p21 b4 b5 b6 b7 b8) ++ scrB k26 q24 p26) ++ [(q29, .inr (0, [.int 0])), (q34, .inr (2, [.null, .int 0]))])) := hD
  refine W.widen (k := 94) (n := 2197) (by decide) (by decide) ?_
  refine lv_dup hx hb dX5_init_74 rfl ?_
  have hPc := hP.sub (ws' := [(q34, .inr (2, [.null, .int 0]))]) [94] rfl
  have hDc := hD.sub (ws' := [(q34, .inr (2, [.null, .int 0]))]) [94] (by decide) rfl
  have hKc := hK.sub (tys' := []) [] rfl
  have hFc := va_free (wc := [(q34, .inr (2, [.null, .int 0]))]) hD hS hA [94] rfl
  have hc36 : 94 + 1 ≤ 95 := by decide
  have hs36 : 2197 + 6 ≤ 2203 := by decide
  refine va_callv (va_runIN (host := "ConkerHeirs") (As := []) (rest := [.ref q34, .ref h0]) ⟨hx, hb, hml, hown, hts⟩ (c_X2_init l dC dI q34 H.size) ⟨va_cnB 0 hts gX5_init_X2_init_n45 rfl rfl rfl hn3 (hts (.initialized RX2) (by decide +kernel)) (by decide +kernel) ⟨Nat.le_of_ble_eq_true rfl, Nat.le_of_ble_eq_true rfl⟩, rfl, hts (.instanceMethod yX2_init) (by decide +kernel)⟩ ⟨fun a U g mk q => by obtain ⟨q0, q1, qP, qK, qD⟩ := q; exact ⟨q0, q1, qP, va_K.moved (u := U) (U := U.calling g mk a) (Vm.Alike.refl U.vm) qK, qD⟩, fun U hU hW => ⟨rfl, by rw [hU], by rw [hU]; exact hPc, va_K.moved hW.alike hKc, hDc.weaken (fun _ _ _ _ => trivial)⟩⟩ rfl rfl hl.1 rfl (lv_room (Nat.le_of_ble_eq_true rfl)) dX5_init_75 ⟨hc36, hs36⟩) hS (fun q _ h => hFc q h) hFc (fun u t H1 locs ht hvm _ hB hz1 hk1 hS => ?_)
  obtain ⟨k36, p36, hP1, hK1, hD1⟩ := hB
  rw [ht] at hP1
  have hK1 := va_K.moved hvm.symm hK1
  obtain ⟨hP, hD⟩ := va_join (wr := (((((([(h0, .inr (5, [.ref (ad6 0), .ref (ad11 0), .ref (ad16 0), .ref q19, .ref q24, .ref q29, .null, .int 0]))] ++ stB k6 ad6) ++ stB k6 ad11) ++ stB k6 ad16) ++ hisB r21 k6 q19 p21 b4 b5 b6 b7 b8) ++ scrB k26 q24 p26) ++ [(q29, .inr (0, [.int 0]))])) (w1 := rowB k36 q34 p36) hP hD [94] [0, 1, 2, 3, 4, 5, 6, 7, 8, 9, 10, 11, 12, 13, 14, 15, 16, 17, 18, 19, 20, 21, 22, 23, 24, 25, 26, 27, 28, 29, 30, 31, 32, 33, 34, 35, 36, 37, 38, 39, 40, 41, 42, 43, 44, 45, 46, 47, 48, 49, 50, 51, 52, 53, 54, 55, 56, 57, 58, 59, 60, 61, 62, 63, 64, 65, 66, 67, 68, 69, 70, 71, 72, 73, 74, 75, 76, 77, 78, 79, 80, 81, 82, 83, 84, 85, 86, 87, 88, 89, 90, 91, 92, 93] rfl rfl (by decide) (by decide) hk1 hFc hP1 hD1
  generalize H1 = H at hP hS ⊢
  have hK := hK.app hK1
  have e36_3 : k6 = k36 := kb_one hK 0 3 rfl rfl
  subst e36_3
  have hK := hK.sub (tys' := [(k6, .int), (r21, .object RX4), (k26, .char)]) [0, 1, 2] rfl
  have hP : va_P (dC, dI) vwCl (((((((([(h0, .inr (5, [.ref (ad6 0), .ref (ad11 0), .ref (ad16 0), .ref q19, .ref q24, .ref q29, .null, .int 0]))] ++ stB k6 ad6) ++ stB k6 ad11) ++ stB k6 ad16) ++ hisB r21 k6 q19 p21 b4 b5 b6 b7 b8) ++ scrB k26 q24 p26) ++ [(q29, .inr (0, [.int 0]))]) ++ rowB k6 q34 p36)) H := hP
  have hD : va_D A (((((((([(h0, .inr (5, [.ref (ad6 0), .ref (ad11 0), .ref (ad16 0), .ref q19, .ref q24, .ref q29, .null, .int 0]))] ++ stB k6 ad6) ++ stB k6 ad11) ++ stB k6 ad16) ++ hisB r21 k6 q19 p21 b4 b5 b6 b7 b8) ++ scrB k26 q24 p26) ++ [(q29, .inr (0, [.int 0]))]) ++ rowB k6 q34 p36)) := hD
  refine va_putF (D := (dC, dI)) (ci := 5) (v := .ref q34) (ty := .object "ConkerHeirs$Row") (C := RX5) (T := TX5) (N := 8) hx hb hts (by decide +kernel) tyX5 tyX5_ok nmX5 hown hK hP hD hS 0 rfl rfl 6 (by decide) (hts (.fieldLink RX5 46 "ConkerHeirs" "row" "LConkerHeirs$Row;") (by decide +kernel)) (fun _ h9 => h9) rfl hin rfl (by decide +kernel) rfl rfl (Nat.le_of_ble_eq_true rfl) dX5_init_78 (fun H locs hP hD hS => ?_)
  have hP : va_P (dC, dI) vwCl (((((((([(h0, .inr (5, [.ref (ad6 0), .ref (ad11 0), .ref (ad16 0), .ref q19, .ref q24, .ref q29, .ref q34, .int 0]))] ++ stB k6 ad6) ++ stB k6 ad11) ++ stB k6 ad16) ++ hisB r21 k6 q19 p21 b4 b5 b6 b7 b8) ++ scrB k26 q24 p26) ++ [(q29, .inr (0, [.int 0]))]) ++ rowB k6 q34 p36)) H := hP
  have hD : va_D A (((((((([(h0, .inr (5, [.ref (ad6 0), .ref (ad11 0), .ref (ad16 0), .ref q19, .ref q24, .ref q29, .ref q34, .int 0]))] ++ stB k6 ad6) ++ stB k6 ad11) ++ stB k6 ad16) ++ hisB r21 k6 q19 p21 b4 b5 b6 b7 b8) ++ scrB k26 q24 p26) ++ [(q29, .inr (0, [.int 0]))]) ++ rowB k6 q34 p36)) := hD
  refine lv_aload_n hx hb dX5_init_81 rfl (lv_at hl 0 rfl) ?_
  refine lv_iconst (v := 0) hx hb dX5_init_82 (by decide) ?_
  refine va_put (D := (dC, dI)) (ci := 5) (v := .int 0) (ty := .boolean) (C := RX5) (T := TX5) (N := 8) hx hb hts (by decide +kernel) tyX5 tyX5_ok nmX5 hown hK hP hD hS 0 rfl rfl 7 (by decide) (hts (.fieldLink RX5 50 "ConkerHeirs" "hasSnapshot" "Z") (by decide +kernel)) (fun _ h9 => h9) rfl (by decide +kernel) rfl rfl (Nat.le_of_ble_eq_true rfl) dX5_init_83 (fun H locs hP hD hS => ?_)
  have hP : va_P (dC, dI) vwCl (((((((([(h0, .inr (5, [.ref (ad6 0), .ref (ad11 0), .ref (ad16 0), .ref q19, .ref q24, .ref q29, .ref q34, .int 0]))] ++ stB k6 ad6) ++ stB k6 ad11) ++ stB k6 ad16) ++ hisB r21 k6 q19 p21 b4 b5 b6 b7 b8) ++ scrB k26 q24 p26) ++ [(q29, .inr (0, [.int 0]))]) ++ rowB k6 q34 p36)) H := hP
  have hD : va_D A (((((((([(h0, .inr (5, [.ref (ad6 0), .ref (ad11 0), .ref (ad16 0), .ref q19, .ref q24, .ref q29, .ref q34, .int 0]))] ++ stB k6 ad6) ++ stB k6 ad11) ++ stB k6 ad16) ++ hisB r21 k6 q19 p21 b4 b5 b6 b7 b8) ++ scrB k26 q24 p26) ++ [(q29, .inr (0, [.int 0]))]) ++ rowB k6 q34 p36)) := hD
  have hK9 := hK.sub (tys' := [(k6, .int), (k26, .char), (r21, .object RX4)]) [0, 2, 1] rfl
  have hP9 : va_P (dC, dI) vwCl (gamB k6 k26 r21 h0 ad6 ad11 ad16 q19 p21 b4 b5 b6 b7 b8 q24 p26 q29 q34 p36) H := hP
  have hD9 : va_D A (gamB k6 k26 r21 h0 ad6 ad11 ad16 q19 p21 b4 b5 b6 b7 b8 q24 p26 q29 q34 p36) := hD
  exact W.vret hx hb hr (fun t ht hW => ⟨⟨(), rfl, trivial, k6, k26, r21, ad6, ad11, ad16, q19, p21, b4, b5, b6, b7, b8, q24, p26, q29, q34, p36, by rw [ht]; exact hP9, va_K.moved hW.alike hK9, hD9⟩, hS.F ht⟩) hS.2.2 dX5_init_86
