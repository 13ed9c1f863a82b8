/-! The constructor of History -/
set_option maxHeartbeats 1000000 in
set_option maxRecDepth 100000 in
theorem c_X1_init (l : Launch) (dC : Nat → ClassId) (dI : Nat → Nat → Nat) (h0 : Nat) (sz : Nat) : Met l yX1_init wsX1_init ({ frames := 2, cells := 56, slots := 1330, locals := 33 } : Room) (va_Pc [.ref h0] (fun U => U.heap.size = sz ∧ va_P (dC, dI) vwCl [(h0, .inr (1, [.null, .int 0]))] U.heap ∧ va_K (dC, dI) vwCl [] U ∧ va_D (fun _ => True) [(h0, .inr (1, [.null, .int 0]))] ∧ va_AO RX4 U)) (va_Qv (fun _ : Unit => True) (fun _ t => ∃ (cA cR : ClassId) (q : Nat) (b4 b5 b6 b7 b8 : Nat → Nat), va_P (dC, dI) vwCl (hisB cR cA h0 q b4 b5 b6 b7 b8) t.heap ∧ va_K (dC, dI) vwCl [(cA, .int), (cR, .object RX4)] t ∧ va_D (va_A [(h0, .inr (1, [.null, .int 0]))] sz) (hisB cR cA h0 q b4 b5 b6 b7 b8)) (va_A [(h0, .inr (1, [.null, .int 0]))] sz)) 56 1330 (va_A [(h0, .inr (1, [.null, .int 0]))] sz) := by
  refine Met.ofW (cc := cX1_init) (maxL := 2) (ret := none) (by decide) rfl ?_
  intro p e s m args below meth c s₁ B hml hv
  obtain ⟨rfl, hsz, hP, hK, hD0, hn0⟩ := hv
  have hx := B.exec
  have hb := B.bytes
  have hr := B.returns
  have hts := atoms_spec (ws := wsX1_init) B.pre
  have hown : s.vm.findClass RX1 = some m.cls := findClass_of_methodNamed B.named
  have hin : meth.name = "<init>" := (name_of_methodNamed B.named B.method).1
  subst hsz
  have hD := hD0.self (sz := s.heap.size)
  generalize hAe : va_A [(h0, .inr (1, [.null, .int 0]))] s.heap.size = A at hD ⊢
  have hA : ∀ q : Nat, s.heap.size ≤ q → A q := fun q h => by rw [← hAe]; exact Or.inr h
  have hS : va_S A s.heap s.heap [] := va_S.rf
  have hP : va_P (dC, dI) vwCl [(h0, .inr (1, [.null, .int 0]))] s.heap := hP
  have hl := lv_entry ([.ref h0]) (n := 2) (Nat.le_of_ble_eq_true rfl)
  rw [lg_entry_eq]
  generalize (lg_sl ([.ref h0]) ++ List.replicate (2 - (lg_sl ([.ref h0])).length) Slot.unset).toArray = ls at hl ⊢
  have hl : lv_has ls 2 [(0, .ref h0)] := hl
  refine lv_aload_n hx hb dX1_init_0 rfl (lv_at hl 0 rfl) ?_
  refine W.objInit hx hb hown (hts (.methodLink RX1 3 objectInit) (by decide +kernel)) (hts (.instanceMethod objectInit) (by decide +kernel)) (hts _ (List.mem_of_getElem? (i := 3) rfl)) rfl (by rw [hml]; exact hl.1) rfl dX1_init_1 (Nat.le_of_ble_eq_true rfl) (Nat.le_of_ble_eq_true rfl) ?_
  refine W.eq (g2 := F0 m 4 ls []) rfl ?_
  refine lv_aload_n hx hb dX1_init_4 rfl (lv_at hl 0 rfl) ?_
  refine lv_iconst (v := 5) hx hb dX1_init_5 (by decide) ?_
  have hc5 : 0 + 1 ≤ 56 := by decide
  have hs5 : 0 + 5 ≤ 1330 := by decide
  refine va_newq (N' := 5) hx hb hown (hts (.classLink RX1 9 RX4) (by decide +kernel)) hn0 hK hP hD hS hA (by decide) (by decide) (by decide) hc5 hs5 dX1_init_6 (fun q5 k5 H hK hP hD hS => ?_)
  have hK : va_K (dC, dI) vwCl [(k5, .object RX4)] s := hK
  have hP : va_P (dC, dI) vwCl ([(h0, .inr (1, [.null, .int 0])), (q5, .inl (k5, 5, .inr (.inr (.inr (.inr (fun _ => none))))))]) H := hP
  have hD : va_D A ([(h0, .inr (1, [.null, .int 0])), (q5, .inl (k5, 5, .inr (.inr (.inr (.inr (fun _ => none))))))]) := hD
  refine W.widen (k := 1) (n := 5) (by decide) (by decide) ?_
  refine va_putF (D := (dC, dI)) (ci := 1) (v := .ref q5) (ty := .array (.object "ConkerHeirs$State")) (C := RX1) (T := TX1) (N := 2) hx hb hts (by decide +kernel) tyX1 tyX1_ok nmX1 hown hK hP hD hS 0 rfl rfl 0 (by decide) (hts (.fieldLink RX1 11 "ConkerHeirs$History" "states" "[LConkerHeirs$State;") (by decide +kernel)) (fun _ h9 => h9) rfl hin rfl (by decide +kernel) rfl rfl (Nat.le_of_ble_eq_true rfl) dX1_init_9 (fun H locs hP hD hS => ?_)
  have hP : va_P (dC, dI) vwCl ([(h0, .inr (1, [.ref q5, .int 0])), (q5, .inl (k5, 5, .inr (.inr (.inr (.inr (fun _ => none))))))]) H := hP
  have hD : va_D A ([(h0, .inr (1, [.ref q5, .int 0])), (q5, .inl (k5, 5, .inr (.inr (.inr (.inr (fun _ => none))))))]) := hD
  refine lv_aload_n hx hb dX1_init_12 rfl (lv_at hl 0 rfl) ?_
  refine lv_iconst (v := 0) hx hb dX1_init_13 (by decide) ?_
  refine va_put (D := (dC, dI)) (ci := 1) (v := .int 0) (ty := .int) (C := RX1) (T := TX1) (N := 2) hx hb hts (by decide +kernel) tyX1 tyX1_ok nmX1 hown hK hP hD hS 0 rfl rfl 1 (by decide) (hts (.fieldLink RX1 17 "ConkerHeirs$History" "held" "I") (by decide +kernel)) (fun _ h9 => h9) rfl (by decide +kernel) rfl rfl (Nat.le_of_ble_eq_true rfl) dX1_init_14 (fun H locs hP hD hS => ?_)
  have hP : va_P (dC, dI) vwCl ([(h0, .inr (1, [.ref q5, .int 0])), (q5, .inl (k5, 5, .inr (.inr (.inr (.inr (fun _ => none))))))]) H := hP
  have hD : va_D A ([(h0, .inr (1, [.ref q5, .int 0])), (q5, .inl (k5, 5, .inr (.inr (.inr (.inr (fun _ => none))))))]) := hD
  refine lv_iconst (v := 0) hx hb dX1_init_17 (by decide) ?_
  refine lv_istore_n hx hb dX1_init_18 rfl hl (by decide) rfl (fun ls hl => ?_)
  have hl : lv_has ls 2 [(1, .int 0), (0, .ref h0)] := hl
  refine lv_iload_n hx hb dX1_init_19 rfl (lv_at hl 0 rfl) ?_
  refine lv_iconst (v := 5) hx hb dX1_init_20 (by decide) ?_
  refine lv_icmp_ge (tgt := 43) hx hb dX1_init_21 rfl (fun h => absurd h (by decide)) (fun _ => ?_)
  refine lv_aload_n hx hb dX1_init_24 rfl (lv_at hl 1 rfl) ?_
  refine va_get (D := (dC, dI)) (ci := 1) (C := RX1) (T := TX1) (N := 2) hx hb hts (by decide +kernel) hown hK hP 0 rfl rfl 0 (by decide) (hts (.fieldLink RX1 11 "ConkerHeirs$History" "states" "[LConkerHeirs$State;") (by decide +kernel)) (fun _ h9 => h9) rfl dX1_init_25 ?_
  refine lv_iload_n hx hb dX1_init_28 rfl (lv_at hl 0 rfl) ?_
  have hc18 : 1 + 1 ≤ 56 := by decide
  have hs18 : 5 + 13 ≤ 1330 := by decide
  refine va_new (ci := 4) (fs := [.null, .null, .null, .null, .null, .null, .null, .null, .null, .null, .int 0, .int 0, .int 0]) (C := RX4) (T := TX4) (N := 13) hx hb hts (by decide +kernel) tyX4 tyX4_ok hown (hts (.classLink RX1 9 RX4) (by decide +kernel)) (hts (.instantiable RX4 13) (by decide +kernel)) (hts (.initialized RX4) (by decide +kernel)) hK hP hD hS hA rfl (fun j hj => by rcases (show j = 0 ∨ j = 1 ∨ j = 2 ∨ j = 3 ∨ j = 4 ∨ j = 5 ∨ j = 6 ∨ j = 7 ∨ j = 8 ∨ j = 9 ∨ j = 10 ∨ j = 11 ∨ j = 12 by omega) with rfl | rfl | rfl | rfl | rfl | rfl | rfl | rfl | rfl | rfl | rfl | rfl | rfl <;> rfl) hc18 hs18 dX1_init_29 (fun q18 H hP hD hS => ?_)
  have hP : va_P (dC, dI) vwCl ([(h0, .inr (1, [.ref q5, .int 0])), (q5, .inl (k5, 5, .inr (.inr (.inr (.inr (fun _ => none)))))), (q18, .inr (4, [.null, .null, .null, .null, .null, .null, .null, .null, .null, .null, .int 0, .int 0, .int 0]))]) H := hP
  have hD : va_D A ([(h0, .inr (1, [.ref q5, .int 0])), (q5, .inl (k5, 5, .inr (.inr (.inr (.inr (fun _ => none)))))), (q18, .inr (4, [.null, .null, .null, .null, .null, .null, .null, .null, .null, .null, .int 0, .int 0, .int 0]))]) := hD
  refine W.widen (k := 2) (n := 18) (by decide) (by decide) ?_
  refine lv_dup hx hb dX1_init_32 rfl ?_
  have hPc := hP.sub (ws' := [(q18, .inr (4, [.null, .null, .null, .null, .null, .null, .null, .null, .null, .null, .int 0, .int 0, .int 0]))]) [2] rfl
  have hDc := hD.sub (ws' := [(q18, .inr (4, [.null, .null, .null, .null, .null, .null, .null, .null, .null, .null, .int 0, .int 0, .int 0]))]) [2] (by decide) rfl
  have hKc := hK.sub (tys' := []) [] rfl
  have hFc := va_free (wc := [(q18, .inr (4, [.null, .null, .null, .null, .null, .null, .null, .null, .null, .null, .int 0, .int 0, .int 0]))]) hD hS hA [2] rfl
  have hc20 : 2 + 10 ≤ 56 := by decide
  have hs20 : 18 + 252 ≤ 1330 := by decide
  refine va_callv (va_runI (As := []) (rest := [.ref q18, .int 0, .ref q5]) ⟨hx, hb, hml, hown, hts⟩ (c_X4_init l dC dI q18 H.size) (cwI 0 hts gX1_init_X4_init rfl rfl rfl (hts (.initialized RX4) (by decide +kernel)) (hts (.methodLink RX1 21 yX4_init) (by decide +kernel)) (hts (.instanceMethod yX4_init) (by decide +kernel)) rfl (by decide +kernel) ⟨Nat.le_of_ble_eq_true rfl, Nat.le_of_ble_eq_true rfl⟩) ⟨fun a U g mk q => by obtain ⟨q0, q1, qP, qK, qD⟩ := q; exact ⟨q0, q1, qP, va_K.moved (u := U) (U := U.calling g mk a) (Vm.Alike.refl U.vm) qK, qD⟩, fun U hU hW => ⟨rfl, by rw [hU], by rw [hU]; exact hPc, va_K.moved hW.alike hKc, hDc.weaken (fun _ _ _ _ => trivial)⟩⟩ rfl rfl hl.1 rfl (lv_room (Nat.le_of_ble_eq_true rfl)) dX1_init_33 ⟨hc20, hs20⟩) hS (fun q _ h => hFc q h) hFc (fun u t H1 locs ht hvm _ hB hz1 hk1 hS => ?_)
  obtain ⟨k20, ad20, ea20, hP1, hK1, hD1⟩ := hB
  rw [ht] at hP1
  have hK1 := va_K.moved hvm.symm hK1
  subst ea20
  obtain ⟨hP, hD⟩ := va_join (wr := [(h0, .inr (1, [.ref q5, .int 0])), (q5, .inl (k5, 5, .inr (.inr (.inr (.inr (fun _ => none))))))]) (w1 := stB k20 ad20) hP hD [2] [0, 1] rfl rfl (by decide) (by decide) hk1 hFc hP1 hD1
  generalize H1 = H at hP hS ⊢
  have hK := hK.app hK1
  have hK := hK.sub (tys' := [(k5, .object RX4), (k20, .int)]) [0, 1] rfl
  have hP : va_P (dC, dI) vwCl (([(h0, .inr (1, [.ref q5, .int 0])), (q5, .inl (k5, 5, .inr (.inr (.inr (.inr (fun _ => none))))))] ++ stB k20 ad20)) H := hP
  have hD : va_D A (([(h0, .inr (1, [.ref q5, .int 0])), (q5, .inl (k5, 5, .inr (.inr (.inr (.inr (fun _ => none))))))] ++ stB k20 ad20)) := hD
  refine va_astq (r := (RX4, TX4, 13)) hx hb hK hP hD hS 1 0 2 4 rfl rfl rfl rfl (by unfold vp_in; decide) dX1_init_36 (fun H locs hP hD hS => ?_)
  have hP : va_P (dC, dI) vwCl (([(h0, .inr (1, [.ref q5, .int 0])), (q5, .inl (k5, 5, .inr (.inr (.inr (.inr (va_up (fun _ => none) 0 (some (ad20 0))))))))] ++ stB k20 ad20)) H := hP
  have hD : va_D A (([(h0, .inr (1, [.ref q5, .int 0])), (q5, .inl (k5, 5, .inr (.inr (.inr (.inr (va_up (fun _ => none) 0 (some (ad20 0))))))))] ++ stB k20 ad20)) := hD
  refine lv_iinc (v := 1) hx hb dX1_init_37 hl (k := 0) rfl (by decide) (by decide) rfl (fun ls hl => ?_)
  have hl : lv_has ls 2 [(1, .int 1), (0, .ref h0)] := hl
  refine lv_goto (tgt := 19) hx hb dX1_init_40 rfl ?_
  refine lv_iload_n hx hb dX1_init_19 rfl (lv_at hl 0 rfl) ?_
  refine lv_iconst (v := 5) hx hb dX1_init_20 (by decide) ?_
  refine lv_icmp_ge (tgt := 43) hx hb dX1_init_21 rfl (fun h => absurd h (by decide)) (fun _ => ?_)
  refine lv_aload_n hx hb dX1_init_24 rfl (lv_at hl 1 rfl) ?_
  refine va_get (D := (dC, dI)) (ci := 1) (C := RX1) (T := TX1) (N := 2) hx hb hts (by decide +kernel) hown hK hP 0 rfl rfl 0 (by decide) (hts (.fieldLink RX1 11 "ConkerHeirs$History" "states" "[LConkerHeirs$State;") (by decide +kernel)) (fun _ h9 => h9) rfl dX1_init_25 ?_
  refine lv_iload_n hx hb dX1_init_28 rfl (lv_at hl 0 rfl) ?_
  have hc30 : 12 + 1 ≤ 56 := by decide
  have hs30 : 270 + 13 ≤ 1330 := by decide
  refine va_new (ci := 4) (fs := [.null, .null, .null, .null, .null, .null, .null, .null, .null, .null, .int 0, .int 0, .int 0]) (C := RX4) (T := TX4) (N := 13) hx hb hts (by decide +kernel) tyX4 tyX4_ok hown (hts (.classLink RX1 9 RX4) (by decide +kernel)) (hts (.instantiable RX4 13) (by decide +kernel)) (hts (.initialized RX4) (by decide +kernel)) hK hP hD hS hA rfl (fun j hj => by rcases (show j = 0 ∨ j = 1 ∨ j = 2 ∨ j = 3 ∨ j = 4 ∨ j = 5 ∨ j = 6 ∨ j = 7 ∨ j = 8 ∨ j = 9 ∨ j = 10 ∨ j = 11 ∨ j = 12 by omega) with rfl | rfl | rfl | rfl | rfl | rfl | rfl | rfl | rfl | rfl | rfl | rfl | rfl <;> rfl) hc30 hs30 dX1_init_29 (fun q30 H hP hD hS => ?_)
  have hP : va_P (dC, dI) vwCl ((([(h0, .inr (1, [.ref q5, .int 0])), (q5, .inl (k5, 5, .inr (.inr (.inr (.inr (va_up (fun _ => none) 0 (some (ad20 0))))))))] ++ stB k20 ad20) ++ [(q30, .inr (4, [.null, .null, .null, .null, .null, .null, .null, .null, .null, .null, .int 0, .int 0, .int 0]))])) H := hP
  have hD : va_D A ((([(h0, .inr (1, [.ref q5, .int 0])), (q5, .inl (k5, 5, .inr (.inr (.inr (.inr (va_up (fun _ => none) 0 (some (ad20 0))))))))] ++ stB k20 ad20) ++ [(q30, .inr (4, [.null, .null, .null, .null, .null, .null, .null, .null, .null, .null, .int 0, .int 0, .int 0]))])) := hD
  refine W.widen (k := 13) (n := 283) (by decide) (by decide) ?_
  refine lv_dup hx hb dX1_init_32 rfl ?_
  have hPc := hP.sub (ws' := [(q30, .inr (4, [.null, .null, .null, .null, .null, .null, .null, .null, .null, .null, .int 0, .int 0, .int 0]))]) [13] rfl
  have hDc := hD.sub (ws' := [(q30, .inr (4, [.null, .null, .null, .null, .null, .null, .null, .null, .null, .null, .int 0, .int 0, .int 0]))]) [13] (by decide) rfl
  have hKc := hK.sub (tys' := []) [] rfl
  have hFc := va_free (wc := [(q30, .inr (4, [.null, .null, .null, .null, .null, .null, .null, .null, .null, .null, .int 0, .int 0, .int 0]))]) hD hS hA [13] rfl
  have hc32 : 13 + 10 ≤ 56 := by decide
  have hs32 : 283 + 252 ≤ 1330 := by decide
  refine va_callv (va_runI (As := []) (rest := [.ref q30, .int 1, .ref q5]) ⟨hx, hb, hml, hown, hts⟩ (c_X4_init l dC dI q30 H.size) (cwI 0 hts gX1_init_X4_init rfl rfl rfl (hts (.initialized RX4) (by decide +kernel)) (hts (.methodLink RX1 21 yX4_init) (by decide +kernel)) (hts (.instanceMethod yX4_init) (by decide +kernel)) rfl (by decide +kernel) ⟨Nat.le_of_ble_eq_true rfl, Nat.le_of_ble_eq_true rfl⟩) ⟨fun a U g mk q => by obtain ⟨q0, q1, qP, qK, qD⟩ := q; exact ⟨q0, q1, qP, va_K.moved (u := U) (U := U.calling g mk a) (Vm.Alike.refl U.vm) qK, qD⟩, fun U hU hW => ⟨rfl, by rw [hU], by rw [hU]; exact hPc, va_K.moved hW.alike hKc, hDc.weaken (fun _ _ _ _ => trivial)⟩⟩ rfl rfl hl.1 rfl (lv_room (Nat.le_of_ble_eq_true rfl)) dX1_init_33 ⟨hc32, hs32⟩) hS (fun q _ h => hFc q h) hFc (fun u t H1 locs ht hvm _ hB hz1 hk1 hS => ?_)
  obtain ⟨k32, ad32, ea32, hP1, hK1, hD1⟩ := hB
  rw [ht] at hP1
  have hK1 := va_K.moved hvm.symm hK1
  subst ea32
  obtain ⟨hP, hD⟩ := va_join (wr := ([(h0, .inr (1, [.ref q5, .int 0])), (q5, .inl (k5, 5, .inr (.inr (.inr (.inr (va_up (fun _ => none) 0 (some (ad20 0))))))))] ++ stB k20 ad20)) (w1 := stB k32 ad32) hP hD [13] [0, 1, 2, 3, 4, 5, 6, 7, 8, 9, 10, 11, 12] rfl rfl (by decide) (by decide) hk1 hFc hP1 hD1
  generalize H1 = H at hP hS ⊢
  have hK := hK.app hK1
  have e32_2 : k20 = k32 := kb_one hK 1 2 rfl rfl
  subst e32_2
  have hK := hK.sub (tys' := [(k5, .object RX4), (k20, .int)]) [0, 1] rfl
  have hP : va_P (dC, dI) vwCl ((([(h0, .inr (1, [.ref q5, .int 0])), (q5, .inl (k5, 5, .inr (.inr (.inr (.inr (va_up (fun _ => none) 0 (some (ad20 0))))))))] ++ stB k20 ad20) ++ stB k20 ad32)) H := hP
  have hD : va_D A ((([(h0, .inr (1, [.ref q5, .int 0])), (q5, .inl (k5, 5, .inr (.inr (.inr (.inr (va_up (fun _ => none) 0 (some (ad20 0))))))))] ++ stB k20 ad20) ++ stB k20 ad32)) := hD
  refine va_astq (r := (RX4, TX4, 13)) hx hb hK hP hD hS 1 0 13 4 rfl rfl rfl rfl (by unfold vp_in; decide) dX1_init_36 (fun H locs hP hD hS => ?_)
  have hP : va_P (dC, dI) vwCl ((([(h0, .inr (1, [.ref q5, .int 0])), (q5, .inl (k5, 5, .inr (.inr (.inr (.inr (va_up (va_up (fun _ => none) 0 (some (ad20 0))) 1 (some (ad32 0))))))))] ++ stB k20 ad20) ++ stB k20 ad32)) H := hP
  have hD : va_D A ((([(h0, .inr (1, [.ref q5, .int 0])), (q5, .inl (k5, 5, .inr (.inr (.inr (.inr (va_up (va_up (fun _ => none) 0 (some (ad20 0))) 1 (some (ad32 0))))))))] ++ stB k20 ad20) ++ stB k20 ad32)) := hD
  refine lv_iinc (v := 2) hx hb dX1_init_37 hl (k := 0) rfl (by decide) (by decide) rfl (fun ls hl => ?_)
  have hl : lv_has ls 2 [(1, .int 2), (0, .ref h0)] := hl
  refine lv_goto (tgt := 19) hx hb dX1_init_40 rfl ?_
  refine lv_iload_n hx hb dX1_init_19 rfl (lv_at hl 0 rfl) ?_
  refine lv_iconst (v := 5) hx hb dX1_init_20 (by decide) ?_
  refine lv_icmp_ge (tgt := 43) hx hb dX1_init_21 rfl (fun h => absurd h (by decide)) (fun _ => ?_)
  refine lv_aload_n hx hb dX1_init_24 rfl (lv_at hl 1 rfl) ?_
  refine va_get (D := (dC, dI)) (ci := 1) (C := RX1) (T := TX1) (N := 2) hx hb hts (by decide +kernel) hown hK hP 0 rfl rfl 0 (by decide) (hts (.fieldLink RX1 11 "ConkerHeirs$History" "states" "[LConkerHeirs$State;") (by decide +kernel)) (fun _ h9 => h9) rfl dX1_init_25 ?_
  refine lv_iload_n hx hb dX1_init_28 rfl (lv_at hl 0 rfl) ?_
  have hc42 : 23 + 1 ≤ 56 := by decide
  have hs42 : 535 + 13 ≤ 1330 := by decide
  refine va_new (ci := 4) (fs := [.null, .null, .null, .null, .null, .null, .null, .null, .null, .null, .int 0, .int 0, .int 0]) (C := RX4) (T := TX4) (N := 13) hx hb hts (by decide +kernel) tyX4 tyX4_ok hown (hts (.classLink RX1 9 RX4) (by decide +kernel)) (hts (.instantiable RX4 13) (by decide +kernel)) (hts (.initialized RX4) (by decide +kernel)) hK hP hD hS hA rfl (fun j hj => by rcases (show j = 0 ∨ j = 1 ∨ j = 2 ∨ j = 3 ∨ j = 4 ∨ j = 5 ∨ j = 6 ∨ j = 7 ∨ j = 8 ∨ j = 9 ∨ j = 10 ∨ j = 11 ∨ j = 12 by omega) with rfl | rfl | rfl | rfl | rfl | rfl | rfl | rfl | rfl | rfl | rfl | rfl | rfl <;> rfl) hc42 hs42 dX1_init_29 (fun q42 H hP hD hS => ?_)
  have hP : va_P (dC, dI) vwCl (((([(h0, .inr (1, [.ref q5, .int 0])), (q5, .inl (k5, 5, .inr (.inr (.inr (.inr (va_up (va_up (fun _ => none) 0 (some (ad20 0))) 1 (some (ad32 0))))))))] ++ stB k20 ad20) ++ stB k20 ad32) ++ [(q42, .inr (4, [.null, .null, .null, .null, .null, .null, .null, .null, .null, .null, .int 0, .int 0, .int 0]))])) H := hP
  have hD : va_D A (((([(h0, .inr (1, [.ref q5, .int 0])), (q5, .inl (k5, 5, .inr (.inr (.inr (.inr (va_up (va_up (fun _ => none) 0 (some (ad20 0))) 1 (some (ad32 0))))))))] ++ stB k20 ad20) ++ stB k20 ad32) ++ [(q42, .inr (4, [.null, .null, .null, .null, .null, .null, .null, .null, .null, .null, .int 0, .int 0, .int 0]))])) := hD
  refine W.widen (k := 24) (n := 548) (by decide) (by decide) ?_
  refine lv_dup hx hb dX1_init_32 rfl ?_
  have hPc := hP.sub (ws' := [(q42, .inr (4, [.null, .null, .null, .null, .null, .null, .null, .null, .null, .null, .int 0, .int 0, .int 0]))]) [24] rfl
  have hDc := hD.sub (ws' := [(q42, .inr (4, [.null, .null, .null, .null, .null, .null, .null, .null, .null, .null, .int 0, .int 0, .int 0]))]) [24] (by decide) rfl
  have hKc := hK.sub (tys' := []) [] rfl
  have hFc := va_free (wc := [(q42, .inr (4, [.null, .null, .null, .null, .null, .null, .null, .null, .null, .null, .int 0, .int 0, .int 0]))]) hD hS hA [24] rfl
  have hc44 : 24 + 10 ≤ 56 := by decide
  have hs44 : 548 + 252 ≤ 1330 := by decide
  refine va_callv (va_runI (As := []) (rest := [.ref q42, .int 2, .ref q5]) ⟨hx, hb, hml, hown, hts⟩ (c_X4_init l dC dI q42 H.size) (cwI 0 hts gX1_init_X4_init rfl rfl rfl (hts (.initialized RX4) (by decide +kernel)) (hts (.methodLink RX1 21 yX4_init) (by decide +kernel)) (hts (.instanceMethod yX4_init) (by decide +kernel)) rfl (by decide +kernel) ⟨Nat.le_of_ble_eq_true rfl, Nat.le_of_ble_eq_true rfl⟩) ⟨fun a U g mk q => by obtain ⟨q0, q1, qP, qK, qD⟩ := q; exact ⟨q0, q1, qP, va_K.moved (u := U) (U := U.calling g mk a) (Vm.Alike.refl U.vm) qK, qD⟩, fun U hU hW => ⟨rfl, by rw [hU], by rw [hU]; exact hPc, va_K.moved hW.alike hKc, hDc.weaken (fun _ _ _ _ => trivial)⟩⟩ rfl rfl hl.1 rfl (lv_room (Nat.le_of_ble_eq_true rfl)) dX1_init_33 ⟨hc44, hs44⟩) hS (fun q _ h => hFc q h) hFc (fun u t H1 locs ht hvm _ hB hz1 hk1 hS => ?_)
  obtain ⟨k44, ad44, ea44, hP1, hK1, hD1⟩ := hB
  rw [ht] at hP1
  have hK1 := va_K.moved hvm.symm hK1
  subst ea44
  obtain ⟨hP, hD⟩ := va_join (wr := (([(h0, .inr (1, [.ref q5, .int 0])), (q5, .inl (k5, 5, .inr (.inr (.inr (.inr (va_up (va_up (fun _ => none) 0 (some (ad20 0))) 1 (some (ad32 0))))))))] ++ stB k20 ad20) ++ stB k20 ad32)) (w1 := stB k44 ad44) hP hD [24] [0, 1, 2, 3, 4, 5, 6, 7, 8, 9, 10, 11, 12, 13, 14, 15, 16, 17, 18, 19, 20, 21, 22, 23] rfl rfl (by decide) (by decide) hk1 hFc hP1 hD1
  generalize H1 = H at hP hS ⊢
  have hK := hK.app hK1
  have e44_2 : k20 = k44 := kb_one hK 1 2 rfl rfl
  subst e44_2
  have hK := hK.sub (tys' := [(k5, .object RX4), (k20, .int)]) [0, 1] rfl
  have hP : va_P (dC, dI) vwCl (((([(h0, .inr (1, [.ref q5, .int 0])), (q5, .inl (k5, 5, .inr (.inr (.inr (.inr (va_up (va_up (fun _ => none) 0 (some (ad20 0))) 1 (some (ad32 0))))))))] ++ stB k20 ad20) ++ stB k20 ad32) ++ stB k20 ad44)) H := hP
  have hD : va_D A (((([(h0, .inr (1, [.ref q5, .int 0])), (q5, .inl (k5, 5, .inr (.inr (.inr (.inr (va_up (va_up (fun _ => none) 0 (some (ad20 0))) 1 (some (ad32 0))))))))] ++ stB k20 ad20) ++ stB k20 ad32) ++ stB k20 ad44)) := hD
  refine va_astq (r := (RX4, TX4, 13)) hx hb hK hP hD hS 1 0 24 4 rfl rfl rfl rfl (by unfold vp_in; decide) dX1_init_36 (fun H locs hP hD hS => ?_)
  have hP : va_P (dC, dI) vwCl (((([(h0, .inr (1, [.ref q5, .int 0])), (q5, .inl (k5, 5, .inr (.inr (.inr (.inr (va_up (va_up (va_up (fun _ => none) 0 (some (ad20 0))) 1 (some (ad32 0))) 2 (some (ad44 0))))))))] ++ stB k20 ad20) ++ stB k20 ad32) ++ stB k20 ad44)) H := hP
  have hD : va_D A (((([(h0, .inr (1, [.ref q5, .int 0])), (q5, .inl (k5, 5, .inr (.inr (.inr (.inr (va_up (va_up (va_up (fun _ => none) 0 (some (ad20 0))) 1 (some (ad32 0))) 2 (some (ad44 0))))))))] ++ stB k20 ad20) ++ stB k20 ad32) ++ stB k20 ad44)) := hD
  refine lv_iinc (v := 3) hx hb dX1_init_37 hl (k := 0) rfl (by decide) (by decide) rfl (fun ls hl => ?_)
  have hl : lv_has ls 2 [(1, .int 3), (0, .ref h0)] := hl
  refine lv_goto (tgt := 19) hx hb dX1_init_40 rfl ?_
  refine lv_iload_n hx hb dX1_init_19 rfl (lv_at hl 0 rfl) ?_
  refine lv_iconst (v := 5) hx hb dX1_init_20 (by decide) ?_
  refine lv_icmp_ge (tgt := 43) hx hb dX1_init_21 rfl (fun h => absurd h (by decide)) (fun _ => ?_)
  refine lv_aload_n hx hb dX1_init_24 rfl (lv_at hl 1 rfl) ?_
  refine va_get (D := (dC, dI)) (ci := 1) (C := RX1) (T := TX1) (N := 2) hx hb hts (by decide +kernel) hown hK hP 0 rfl rfl 0 (by decide) (hts (.fieldLink RX1 11 "ConkerHeirs$History" "states" "[LConkerHeirs$State;") (by decide +kernel)) (fun _ h9 => h9) rfl dX1_init_25 ?_
  refine lv_iload_n hx hb dX1_init_28 rfl (lv_at hl 0 rfl) ?_
  have hc54 : 34 + 1 ≤ 56 := by decide
  have hs54 : 800 + 13 ≤ 1330 := by decide
  refine va_new (ci := 4) (fs := [.null, .null, .null, .null, .null, .null, .null, .null, .null, .null, .int 0, .int 0, .int 0]) (C := RX4) (T := TX4) (N := 13) hx hb hts (by decide +kernel) tyX4 tyX4_ok hown (hts (.classLink RX1 9 RX4) (by decide +kernel)) (hts (.instantiable RX4 13) (by decide +kernel)) (hts (.initialized RX4) (by decide +kernel)) hK hP hD hS hA rfl (fun j hj => by rcases (show j = 0 ∨ j = 1 ∨ j = 2 ∨ j = 3 ∨ j = 4 ∨ j = 5 ∨ j = 6 ∨ j = 7 ∨ j = 8 ∨ j = 9 ∨ j = 10 ∨ j = 11 ∨ j = 12 by omega) with rfl | rfl | rfl | rfl | rfl | rfl | rfl | rfl | rfl | rfl | rfl | rfl | rfl <;> rfl) hc54 hs54 dX1_init_29 (fun q54 H hP hD hS => ?_)
  have hP : va_P (dC, dI) vwCl ((((([(h0, .inr (1, [.ref q5, .int 0])), (q5, .inl (k5, 5, .inr (.inr (.inr (.inr (va_up (va_up (va_up (fun _ => none) 0 (some (ad20 0))) 1 (some (ad32 0))) 2 (some (ad44 0))))))))] ++ stB k20 ad20) ++ stB k20 ad32) ++ stB k20 ad44) ++ [(q54, .inr (4, [.null, .null, .null, .null, .null, .null, .null, .null, .null, .null, .int 0, .int 0, .int 0]))])) H := hP
  have hD : va_D A ((((([(h0, .inr (1, [.ref q5, .int 0])), (q5, .inl (k5, 5, .inr (.inr (.inr (.inr (va_up (va_up (va_up (fun _ => none) 0 (some (ad20 0))) 1 (some (ad32 0))) 2 (some (ad44 0))))))))] ++ stB k20 ad20) ++ stB k20 ad32) ++ stB k20 ad44) ++ [(q54, .inr (4, [.null, .null, .null, .null, .null, .null, .null, .null, .null, .null, .int 0, .int 0, .int 0]))])) := hD
  refine W.widen (k := 35) (n := 813) (by decide) (by decide) ?_
  refine lv_dup hx hb dX1_init_32 rfl ?_
  have hPc := hP.sub (ws' := [(q54, .inr (4, [.null, .null, .null, .null, .null, .null, .null, .null, .null, .null, .int 0, .int 0, .int 0]))]) [35] rfl
  have hDc := hD.sub (ws' := [(q54, .inr (4, [.null, .null, .null, .null, .null, .null, .null, .null, .null, .null, .int 0, .int 0, .int 0]))]) [35] (by decide) rfl
  have hKc := hK.sub (tys' := []) [] rfl
  have hFc := va_free (wc := [(q54, .inr (4, [.null, .null, .null, .null, .null, .null, .null, .null, .null, .null, .int 0, .int 0, .int 0]))]) hD hS hA [35] rfl
  have hc56 : 35 + 10 ≤ 56 := by decide
  have hs56 : 813 + 252 ≤ 1330 := by decide
  refine va_callv (va_runI (As := []) (rest := [.ref q54, .int 3, .ref q5]) ⟨hx, hb, hml, hown, hts⟩ (c_X4_init l dC dI q54 H.size) (cwI 0 hts gX1_init_X4_init rfl rfl rfl (hts (.initialized RX4) (by decide +kernel)) (hts (.methodLink RX1 21 yX4_init) (by decide +kernel)) (hts (.instanceMethod yX4_init) (by decide +kernel)) rfl (by decide +kernel) ⟨Nat.le_of_ble_eq_true rfl, Nat.le_of_ble_eq_true rfl⟩) ⟨fun a U g mk q => by obtain ⟨q0, q1, qP, qK, qD⟩ := q; exact ⟨q0, q1, qP, va_K.moved (u := U) (U := U.calling g mk a) (Vm.Alike.refl U.vm) qK, qD⟩, fun U hU hW => ⟨rfl, by rw [hU], by rw [hU]; exact hPc, va_K.moved hW.alike hKc, hDc.weaken (fun _ _ _ _ => trivial)⟩⟩ rfl rfl hl.1 rfl (lv_room (Nat.le_of_ble_eq_true rfl)) dX1_init_33 ⟨hc56, hs56⟩) hS (fun q _ h => hFc q h) hFc (fun u t H1 locs ht hvm _ hB hz1 hk1 hS => ?_)
  obtain ⟨k56, ad56, ea56, hP1, hK1, hD1⟩ := hB
  rw [ht] at hP1
  have hK1 := va_K.moved hvm.symm hK1
  subst ea56
  obtain ⟨hP, hD⟩ := va_join (wr := ((([(h0, .inr (1, [.ref q5, .int 0])), (q5, .inl (k5, 5, .inr (.inr (.inr (.inr (va_up (va_up (va_up (fun _ => none) 0 (some (ad20 0))) 1 (some (ad32 0))) 2 (some (ad44 0))))))))] ++ stB k20 ad20) ++ stB k20 ad32) ++ stB k20 ad44)) (w1 := stB k56 ad56) hP hD [35] [0, 1, 2, 3, 4, 5, 6, 7, 8, 9, 10, 11, 12, 13, 14, 15, 16, 17, 18, 19, 20, 21, 22, 23, 24, 25, 26, 27, 28, 29, 30, 31, 32, 33, 34] rfl rfl (by decide) (by decide) hk1 hFc hP1 hD1
  generalize H1 = H at hP hS ⊢
  have hK := hK.app hK1
  have e56_2 : k20 = k56 := kb_one hK 1 2 rfl rfl
  subst e56_2
  have hK := hK.sub (tys' := [(k5, .object RX4), (k20, .int)]) [0, 1] rfl
  have hP : va_P (dC, dI) vwCl ((((([(h0, .inr (1, [.ref q5, .int 0])), (q5, .inl (k5, 5, .inr (.inr (.inr (.inr (va_up (va_up (va_up (fun _ => none) 0 (some (ad20 0))) 1 (some (ad32 0))) 2 (some (ad44 0))))))))] ++ stB k20 ad20) ++ stB k20 ad32) ++ stB k20 ad44) ++ stB k20 ad56)) H := hP
  have hD : va_D A ((((([(h0, .inr (1, [.ref q5, .int 0])), (q5, .inl (k5, 5, .inr (.inr (.inr (.inr (va_up (va_up (va_up (fun _ => none) 0 (some (ad20 0))) 1 (some (ad32 0))) 2 (some (ad44 0))))))))] ++ stB k20 ad20) ++ stB k20 ad32) ++ stB k20 ad44) ++ stB k20 ad56)) := hD
  refine va_astq (r := (RX4, TX4, 13)) hx hb hK hP hD hS 1 0 35 4 rfl rfl rfl rfl (by unfold vp_in; decide) dX1_init_36 (fun H locs hP hD hS => ?_)
  have hP : va_P (dC, dI) vwCl ((((([(h0, .inr (1, [.ref q5, .int 0])), (q5, .inl (k5, 5, .inr (.inr (.inr (.inr (va_up (va_up (va_up (va_up (fun _ => none) 0 (some (ad20 0))) 1 (some (ad32 0))) 2 (some (ad44 0))) 3 (some (ad56 0))))))))] ++ stB k20 ad20) ++ stB k20 ad32) ++ stB k20 ad44) ++ stB k20 ad56)) H := hP
  have hD : va_D A ((((([(h0, .inr (1, [.ref q5, .int 0])), (q5, .inl (k5, 5, .inr (.inr (.inr (.inr (va_up (va_up (va_up (va_up (fun _ => none) 0 (some (ad20 0))) 1 (some (ad32 0))) 2 (some (ad44 0))) 3 (some (ad56 0))))))))] ++ stB k20 ad20) ++ stB k20 ad32) ++ stB k20 ad44) ++ stB k20 ad56)) := hD
  refine lv_iinc (v := 4) hx hb dX1_init_37 hl (k := 0) rfl (by decide) (by decide) rfl (fun ls hl => ?_)
  have hl : lv_has ls 2 [(1, .int 4), (0, .ref h0)] := hl
  refine lv_goto (tgt := 19) hx hb dX1_init_40 rfl ?_
  refine lv_iload_n hx hb dX1_init_19 rfl (lv_at hl 0 rfl) ?_
  refine lv_iconst (v := 5) hx hb dX1_init_20 (by decide) ?_
  refine lv_icmp_ge (tgt := 43) hx hb dX1_init_21 rfl (fun h => absurd h (by decide)) (fun _ => ?_)
  refine lv_aload_n hx hb dX1_init_24 rfl (lv_at hl 1 rfl) ?_
  refine va_get (D := (dC, dI)) (ci := 1) (C := RX1) (T := TX1) (N := 2) hx hb hts (by decide +kernel) hown hK hP 0 rfl rfl 0 (by decide) (hts (.fieldLink RX1 11 "ConkerHeirs$History" "states" "[LConkerHeirs$State;") (by decide +kernel)) (fun _ h9 => h9) rfl dX1_init_25 ?_
  refine lv_iload_n hx hb dX1_init_28 rfl (lv_at hl 0 rfl) ?_
  have hc66 : 45 + 1 ≤ 56 := by decide
  have hs66 : 1065 + 13 ≤ 1330 := by decide
  refine va_new (ci := 4) (fs := [.null, .null, .null, .null, .null, .null, .null, .null, .null, .null, .int 0, .int 0, .int 0]) (C := RX4) (T := TX4) (N := 13) hx hb hts (by decide +kernel) tyX4 tyX4_ok hown (hts (.classLink RX1 9 RX4) (by decide +kernel)) (hts (.instantiable RX4 13) (by decide +kernel)) (hts (.initialized RX4) (by decide +kernel)) hK hP hD hS hA rfl (fun j hj => by rcases (show j = 0 ∨ j = 1 ∨ j = 2 ∨ j = 3 ∨ j = 4 ∨ j = 5 ∨ j = 6 ∨ j = 7 ∨ j = 8 ∨ j = 9 ∨ j = 10 ∨ j = 11 ∨ j = 12 by omega) with rfl | rfl | rfl | rfl | rfl | rfl | rfl | rfl | rfl | rfl | rfl | rfl | rfl <;> rfl) hc66 hs66 dX1_init_29 (fun q66 H hP hD hS => ?_)
  have hP : va_P (dC, dI) vwCl (((((([(h0, .inr (1, [.ref q5, .int 0])), (q5, .inl (k5, 5, .inr (.inr (.inr (.inr (va_up (va_up (va_up (va_up (fun _ => none) 0 (some (ad20 0))) 1 (some (ad32 0))) 2 (some (ad44 0))) 3 (some (ad56 0))))))))] ++ stB k20 ad20) ++ stB k20 ad32) ++ stB k20 ad44) ++ stB k20 ad56) ++ [(q66, .inr (4, [.null, .null, .null, .null, .null, .null, .null, .null, .null, .null, .int 0, .int 0, .int 0]))])) H := hP
  have hD : va_D A (((((([(h0, .inr (1, [.ref q5, .int 0])), (q5, .inl (k5, 5, .inr (.inr (.inr (.inr (va_up (va_up (va_up (va_up (fun _ => none) 0 (some (ad20 0))) 1 (some (ad32 0))) 2 (some (ad44 0))) 3 (some (ad56 0))))))))] ++ stB k20 ad20) ++ stB k20 ad32) ++ stB k20 ad44) ++ stB k20 ad56) ++ [(q66, .inr (4, [.null, .null, .null, .null, .null, .null, .null, .null, .null, .null, .int 0, .int 0, .int 0]))])) := hD
  refine W.widen (k := 46) (n := 1078) (by decide) (by decide) ?_
  refine lv_dup hx hb dX1_init_32 rfl ?_
  have hPc := hP.sub (ws' := [(q66, .inr (4, [.null, .null, .null, .null, .null, .null, .null, .null, .null, .null, .int 0, .int 0, .int 0]))]) [46] rfl
  have hDc := hD.sub (ws' := [(q66, .inr (4, [.null, .null, .null, .null, .null, .null, .null, .null, .null, .null, .int 0, .int 0, .int 0]))]) [46] (by decide) rfl
  have hKc := hK.sub (tys' := []) [] rfl
  have hFc := va_free (wc := [(q66, .inr (4, [.null, .null, .null, .null, .null, .null, .null, .null, .null, .null, .int 0, .int 0, .int 0]))]) hD hS hA [46] rfl
  have hc68 : 46 + 10 ≤ 56 := by decide
  have hs68 : 1078 + 252 ≤ 1330 := by decide
  refine va_callv (va_runI (As := []) (rest := [.ref q66, .int 4, .ref q5]) ⟨hx, hb, hml, hown, hts⟩ (c_X4_init l dC dI q66 H.size) (cwI 0 hts gX1_init_X4_init rfl rfl rfl (hts (.initialized RX4) (by decide +kernel)) (hts (.methodLink RX1 21 yX4_init) (by decide +kernel)) (hts (.instanceMethod yX4_init) (by decide +kernel)) rfl (by decide +kernel) ⟨Nat.le_of_ble_eq_true rfl, Nat.le_of_ble_eq_true rfl⟩) ⟨fun a U g mk q => by obtain ⟨q0, q1, qP, qK, qD⟩ := q; exact ⟨q0, q1, qP, va_K.moved (u := U) (U := U.calling g mk a) (Vm.Alike.refl U.vm) qK, qD⟩, fun U hU hW => ⟨rfl, by rw [hU], by rw [hU]; exact hPc, va_K.moved hW.alike hKc, hDc.weaken (fun _ _ _ _ => trivial)⟩⟩ rfl rfl hl.1 rfl (lv_room (Nat.le_of_ble_eq_true rfl)) dX1_init_33 ⟨hc68, hs68⟩) hS (fun q _ h => hFc q h) hFc (fun u t H1 locs ht hvm _ hB hz1 hk1 hS => ?_)
  obtain ⟨k68, ad68, ea68, hP1, hK1, hD1⟩ := hB
  rw [ht] at hP1
  have hK1 := va_K.moved hvm.symm hK1
  subst ea68
  obtain ⟨hP, hD⟩ := va_join (wr := (((([(h0, .inr (1, [.ref q5, .int 0])), (q5, .inl (k5, 5, .inr (.inr (.inr (.inr (va_up (va_up (va_up (va_up (fun _ => none) 0 (some (ad20 0))) 1 (some (ad32 0))) 2 (some (ad44 0))) 3 (some (ad56 0))))))))] ++ stB k20 ad20) ++ stB k20 ad32) ++ stB k20 ad44) ++ stB k20 ad56)) (w1 := stB k68 ad68) hP hD [46] [0, 1, 2, 3, 4, 5, 6, 7, 8, 9, 10, 11, 12, 13, 14, 15, 16, 17, 18, 19, 20, 21, 22, 23, 24, 25, 26, 27, 28, 29, 30, 31, 32, 33, 34, 35, 36, 37, 38, 39, 40, 41, 42, 43, 44, 45] rfl rfl (by decide) (by decide) hk1 hFc hP1 hD1
  generalize H1 = H at hP hS ⊢
  have hK := hK.app hK1
  have e68_2 : k20 = k68 := kb_one hK 1 2 rfl rfl
  subst e68_2
  have hK := hK.sub (tys' := [(k5, .object RX4), (k20, .int)]) [0, 1] rfl
  have hP : va_P (dC, dI) vwCl (((((([(h0, .inr (1, [.ref q5, .int 0])), (q5, .inl (k5, 5, .inr (.inr (.inr (.inr (va_up (va_up (va_up (va_up (fun _ => none) 0 (some (ad20 0))) 1 (some (ad32 0))) 2 (some (ad44 0))) 3 (some (ad56 0))))))))] ++ stB k20 ad20) ++ stB k20 ad32) ++ stB k20 ad44) ++ stB k20 ad56) ++ stB k20 ad68)) H := hP
  have hD : va_D A (((((([(h0, .inr (1, [.ref q5, .int 0])), (q5, .inl (k5, 5, .inr (.inr (.inr (.inr (va_up (va_up (va_up (va_up (fun _ => none) 0 (some (ad20 0))) 1 (some (ad32 0))) 2 (some (ad44 0))) 3 (some (ad56 0))))))))] ++ stB k20 ad20) ++ stB k20 ad32) ++ stB k20 ad44) ++ stB k20 ad56) ++ stB k20 ad68)) := hD
  refine va_astq (r := (RX4, TX4, 13)) hx hb hK hP hD hS 1 0 46 4 rfl rfl rfl rfl (by unfold vp_in; decide) dX1_init_36 (fun H locs hP hD hS => ?_)
  have hP : va_P (dC, dI) vwCl (((((([(h0, .inr (1, [.ref q5, .int 0])), (q5, .inl (k5, 5, .inr (.inr (.inr (.inr (va_up (va_up (va_up (va_up (va_up (fun _ => none) 0 (some (ad20 0))) 1 (some (ad32 0))) 2 (some (ad44 0))) 3 (some (ad56 0))) 4 (some (ad68 0))))))))] ++ stB k20 ad20) ++ stB k20 ad32) ++ stB k20 ad44) ++ stB k20 ad56) ++ stB k20 ad68)) H := hP
  have hD : va_D A (((((([(h0, .inr (1, [.ref q5, .int 0])), (q5, .inl (k5, 5, .inr (.inr (.inr (.inr (va_up (va_up (va_up (va_up (va_up (fun _ => none) 0 (some (ad20 0))) 1 (some (ad32 0))) 2 (some (ad44 0))) 3 (some (ad56 0))) 4 (some (ad68 0))))))))] ++ stB k20 ad20) ++ stB k20 ad32) ++ stB k20 ad44) ++ stB k20 ad56) ++ stB k20 ad68)) := hD
  refine lv_iinc (v := 5) hx hb dX1_init_37 hl (k := 0) rfl (by decide) (by decide) rfl (fun ls hl => ?_)
  have hl : lv_has ls 2 [(1, .int 5), (0, .ref h0)] := hl
  refine lv_goto (tgt := 19) hx hb dX1_init_40 rfl ?_
  refine lv_iload_n hx hb dX1_init_19 rfl (lv_at hl 0 rfl) ?_
  refine lv_iconst (v := 5) hx hb dX1_init_20 (by decide) ?_
  refine lv_icmp_ge (tgt := 43) hx hb dX1_init_21 rfl (fun _ => ?_) (fun h => absurd (show (5 : Int32) ≤ 5 by decide) h)
  have hK9 := hK.sub (tys' := [(k20, .int), (k5, .object RX4)]) [1, 0] rfl
  have hP9 : va_P (dC, dI) vwCl (hisB k5 k20 h0 q5 ad20 ad32 ad44 ad56 ad68) H := hP
  have hD9 : va_D A (hisB k5 k20 h0 q5 ad20 ad32 ad44 ad56 ad68) := hD
  exact W.vret hx hb hr (fun t ht hW => ⟨⟨(), rfl, trivial, k20, k5, q5, ad20, ad32, ad44, ad56, ad68, by rw [ht]; exact hP9, va_K.moved hW.alike hK9, hD9⟩, hS.F ht⟩) hS.2.2 dX1_init_43
