/-! MORE ROWS: longs, comparisons, static calls over the world, calls that make cells, the law's own row of counts -/
theorem wW_off {ω : Wd} {L : Ly} {M M' : Mm} (h : ∀ q ∈ L.1, M' q.1 = M q.1) : wW ω L M' = wW ω L M := by
  unfold wW
  apply List.map_congr_left
  intro q hq
  rw [h q hq]
def enc (h : Int64) : Tm := fun _ i => if i = h.toUInt64.toNat then 1 else 0
theorem enc_inj {a b : Int64} (h : enc a = enc b) : a = b := by
  have e := congrFun (congrFun h 0) a.toUInt64.toNat
  simp only [enc, if_true] at e
  by_cases q : a.toUInt64.toNat = b.toUInt64.toNat
  · have e1 : a.toUInt64 = b.toUInt64 := UInt64.toNat_inj.mp q
    have e2 := congrArg UInt64.toInt64 e1
    simpa using e2
  · rw [if_neg q] at e
    exact absurd e (by decide)
/-- the long that a memory keeps for an end -/
noncomputable def dec (M : Mm) : Int64 := Classical.epsilon (fun h => M 99 = enc h)
theorem dec_enc (M : Mm) (h : Int64) : dec (uM M 99 (enc h)) = h := by
  have e : (uM M 99 (enc h)) 99 = enc (dec (uM M 99 (enc h))) := Classical.epsilon_spec (p := fun z => (uM M 99 (enc h)) 99 = enc z) ⟨h, uM_same M 99 (enc h)⟩
  rw [uM_same] at e
  exact (enc_inj e).symm
def RetJ (Γ : Cx) (ω : Wd) (L : Ly) (cc : ByteArray) : Prop := ∀ (ct pc : Nat) (ls : Array Slot) (H : Heap) (locs : List Loc), CtOk Γ ct → decode cc pc = .ok (.lreturn, 1) → va_P ω.1 vwCl (wW ω L (gT Γ).2) H → va_S (gA Γ) (gs Γ).heap H locs → WC ct Γ H locs (F0 (gm Γ) pc ls [.long (dec (gT Γ).2)])
section ROWS2
variable {ct : Nat} {σ τ : Type} {Γ : Cx} {l : Launch} {rm : Room} {nL : Nat} {ω : Wd} {L : Ly} {cc : ByteArray} {own : String} {ws : List Cond} {em : σ → Mm} {pc : Nat} {lv : List (Nat × Value)} {st : List Value} {x : σ} {X Y : Option (Int32 × σ)}
theorem g_nj {e : Int64} {F : Int64 → Option (Int32 × σ)} (k : ∀ v, Gq ct Γ ω L em pc lv (.long v :: st) x (F v)) : Gq ct Γ ω L em pc lv (.long e :: st) x (nm e F) := k e
theorem g_nf {e : UInt32} {F : UInt32 → Option (Int32 × σ)} (k : ∀ v, Gq ct Γ ω L em pc lv (.float v :: st) x (F v)) : Gq ct Γ ω L em pc lv (.float e :: st) x (nm e F) := k e
theorem g_ct {ct' : Nat} (h : ct' = ct) (k : Gq ct Γ ω L em pc lv st x X) : Gq ct' Γ ω L em pc lv st x X := h ▸ k
theorem g_ishr (h : CxOk Γ l rm nL ω L cc own ws) {a b : Int32} (hdg : decode cc pc = .ok (.ishr, 1))
     (k : Gq ct Γ ω L em (pc + 1) lv (.int (a >>> (b &&& 31)) :: st) x X) : Gq ct Γ ω L em pc lv (.int b :: .int a :: st) x X := by
  obtain ⟨p, l', e, R, s, m, args, below, meth, c, Q, A, nL', tgt⟩ := Γ
  obtain ⟨-, -, hnL, hx, hb, hml, hown, hts, hK, hD, hA, hN, hZ⟩ := h
  exact fun q hq ht hct ls H locs hh hP hS => lv_ishr hx hb hdg (k q hq ht hct ls H locs hh hP hS)
theorem g_ldc2 (h : CxOk Γ l rm nL ω L cc own ws) {index : Nat} (v : Int64) (hdg : decode cc pc = .ok (.ldc2_w index, 3)) (hc : Cond.constantLong own index v ∈ ws) (kk : Gq ct Γ ω L em (pc + 3) lv (.long v :: st) x X) : Gq ct Γ ω L em pc lv st x X := by
  obtain ⟨p, l', e, R, s, m, args, below, meth, c, Q, A, nL', tg⟩ := Γ
  obtain ⟨-, -, -, hx, hb, hml, hown, hts, hK, hD, hA, hN, hZ⟩ := h
  exact fun q hq ht' hct ls H locs hh hP hS => lv_ldc2 hx hb hown (hts _ hc) hdg (kk q hq ht' hct ls H locs hh hP hS)
theorem g_i2l (h : CxOk Γ l rm nL ω L cc own ws) {a : Int32} (hdg : decode cc pc = .ok (.i2l, 1))
     (k : Gq ct Γ ω L em (pc + 1) lv (.long a.toInt64 :: st) x X) : Gq ct Γ ω L em pc lv (.int a :: st) x X := by
  obtain ⟨p, l', e, R, s, m, args, below, meth, c, Q, A, nL', tgt⟩ := Γ
  obtain ⟨-, -, hnL, hx, hb, hml, hown, hts, hK, hD, hA, hN, hZ⟩ := h
  exact fun q hq ht hct ls H locs hh hP hS => lv_i2l hx hb hdg rfl (k q hq ht hct ls H locs hh hP hS)
theorem g_ladd (h : CxOk Γ l rm nL ω L cc own ws) {a b : Int64} (hdg : decode cc pc = .ok (.ladd, 1))
     (k : Gq ct Γ ω L em (pc + 1) lv (.long (a + b) :: st) x X) : Gq ct Γ ω L em pc lv (.long b :: .long a :: st) x X := by
  obtain ⟨p, l', e, R, s, m, args, below, meth, c, Q, A, nL', tgt⟩ := Γ
  obtain ⟨-, -, hnL, hx, hb, hml, hown, hts, hK, hD, hA, hN, hZ⟩ := h
  exact fun q hq ht hct ls H locs hh hP hS => lv_ladd hx hb hdg (k q hq ht hct ls H locs hh hP hS)
theorem g_lmul (h : CxOk Γ l rm nL ω L cc own ws) {a b : Int64} (hdg : decode cc pc = .ok (.lmul, 1))
     (k : Gq ct Γ ω L em (pc + 1) lv (.long (a * b) :: st) x X) : Gq ct Γ ω L em pc lv (.long b :: .long a :: st) x X := by
  obtain ⟨p, l', e, R, s, m, args, below, meth, c, Q, A, nL', tgt⟩ := Γ
  obtain ⟨-, -, hnL, hx, hb, hml, hown, hts, hK, hD, hA, hN, hZ⟩ := h
  exact fun q hq ht hct ls H locs hh hP hS => lv_lmul hx hb hdg (k q hq ht hct ls H locs hh hP hS)
theorem g_lcmp (h : CxOk Γ l rm nL ω L cc own ws) {a b : Int64} (hdg : decode cc pc = .ok (.lcmp, 1))
     (k : Gq ct Γ ω L em (pc + 1) lv (.int (lg_cmp a b) :: st) x X) : Gq ct Γ ω L em pc lv (.long b :: .long a :: st) x X := by
  obtain ⟨p, l', e, R, s, m, args, below, meth, c, Q, A, nL', tgt⟩ := Γ
  obtain ⟨-, -, hnL, hx, hb, hml, hown, hts, hK, hD, hA, hN, hZ⟩ := h
  exact fun q hq ht hct ls H locs hh hP hS => W.lcmp hx hb hdg (k q hq ht hct ls H locs hh hP hS)
theorem g_fcmp (h : CxOk Γ l rm nL ω L cc own ws) {a b : UInt32} {op : CmpOp} (hdg : decode cc pc = .ok (.fcmp op, 1))
     (k : Gq ct Γ ω L em (pc + 1) lv (.int (Op.cmpValue (FP.fcmp a b) op) :: st) x X) : Gq ct Γ ω L em pc lv (.float b :: .float a :: st) x X := by
  obtain ⟨p, l', e, R, s, m, args, below, meth, c, Q, A, nL', tgt⟩ := Γ
  obtain ⟨-, -, hnL, hx, hb, hml, hown, hts, hK, hD, hA, hN, hZ⟩ := h
  exact fun q hq ht hct ls H locs hh hP hS => lv_fcmp hx hb hdg (k q hq ht hct ls H locs hh hP hS)
theorem g_lload_n (h : CxOk Γ l rm nL ω L cc own ws) {n : Fin 4} {i : Nat} {v : Int64} (j : Nat) (hdg : decode cc pc = .ok (.lload_n n, 1))
    (hi : (n : Nat) = i) (hj : lv[j]? = some (i, .long v)) (k : Gq ct Γ ω L em (pc + 1) lv (.long v :: st) x X) : Gq ct Γ ω L em pc lv (st) x X := by
  obtain ⟨p, l', e, R, s, m, args, below, meth, c, Q, A, nL', tgt⟩ := Γ
  obtain ⟨-, -, hnL, hx, hb, hml, hown, hts, hK, hD, hA, hN, hZ⟩ := h
  exact fun q hq ht hct ls H locs hh hP hS => lv_lload_n hx hb hdg hi (lv_at hh j hj) (k q hq ht hct ls H locs hh hP hS)
theorem g_lload (h : CxOk Γ l rm nL ω L cc own ws) {i : Nat} {v : Int64} (j : Nat) (hdg : decode cc pc = .ok (.lload i, 2))
    (hj : lv[j]? = some (i, .long v)) (k : Gq ct Γ ω L em (pc + 2) lv (.long v :: st) x X) : Gq ct Γ ω L em pc lv (st) x X := by
  obtain ⟨p, l', e, R, s, m, args, below, meth, c, Q, A, nL', tgt⟩ := Γ
  obtain ⟨-, -, hnL, hx, hb, hml, hown, hts, hK, hD, hA, hN, hZ⟩ := h
  exact fun q hq ht hct ls H locs hh hP hS => lv_lload hx hb hdg (lv_at hh j hj) (k q hq ht hct ls H locs hh hP hS)
theorem g_lstore_n (h : CxOk Γ l rm nL ω L cc own ws) {n : Fin 4} {i : Nat} (hi : (n : Nat) = i) {v : Int64} {lv' : List (Nat × Value)} (hdg : decode cc pc = .ok (.lstore_n n, 1)) (hn : i + 1 < nL) (ks : List Nat) (hl : lv_pick ((i, Value.long v) :: lv.filter (fun q => !(q.1 == i) && (!(q.1 == i + 1) && !(q.1 + 1 == i && q.2.category == 2)))) ks = lv') (k : Gq ct Γ ω L em (pc + 1) lv' st x X) : Gq ct Γ ω L em pc lv (Value.long v :: st) x X := by
  obtain ⟨p, l', e, R, s, m, args, below, meth, c, Q, A, nL', tgt⟩ := Γ
  obtain ⟨-, -, hnL, hx, hb, hml, hown, hts, hK, hD, hA, hN, hZ⟩ := h
  exact fun q hq ht hct ls H locs hh hP hS => lv_lstore_n hx hb hdg hi hh (hnL.symm ▸ hn) rfl (fun ls' hh' => k q hq ht hct ls' H locs (lv_sub hh' ks hl) hP hS)
theorem g_lstore (h : CxOk Γ l rm nL ω L cc own ws) {i : Nat} {v : Int64} {lv' : List (Nat × Value)} (hdg : decode cc pc = .ok (.lstore i, 2)) (hn : i + 1 < nL) (ks : List Nat) (hl : lv_pick ((i, Value.long v) :: lv.filter (fun q => !(q.1 == i) && (!(q.1 == i + 1) && !(q.1 + 1 == i && q.2.category == 2)))) ks = lv') (k : Gq ct Γ ω L em (pc + 2) lv' st x X) : Gq ct Γ ω L em pc lv (Value.long v :: st) x X := by
  obtain ⟨p, l', e, R, s, m, args, below, meth, c, Q, A, nL', tgt⟩ := Γ
  obtain ⟨-, -, hnL, hx, hb, hml, hown, hts, hK, hD, hA, hN, hZ⟩ := h
  exact fun q hq ht hct ls H locs hh hP hS => lv_lstore hx hb hdg hh (hnL.symm ▸ hn) rfl (fun ls' hh' => k q hq ht hct ls' H locs (lv_sub hh' ks hl) hP hS)
/-- a long is answered: the memory keeps it -/
theorem g_lret {M : Mm} {h0 : Int64} (hR : RetJ Γ ω L cc) (h9 : ∀ q ∈ L.1, q.1 ≠ 99) (hdg : decode cc pc = .ok (.lreturn, 1)) : Gq ct Γ ω L eI pc lv [.long h0] M (some (0, uM M 99 (enc h0))) := by
  intro q hq ht hct ls H locs hh hP hS
  cases hq
  have e2 : (gT Γ).2 = uM M 99 (enc h0) := by rw [ht]
  have e3 : wW ω L (gT Γ).2 = wW ω L M := by
    rw [e2]
    exact wW_off (fun q hq => uM_ne M 99 (enc h0) (h9 q hq))
  have K := hR ct pc ls H locs hct hdg (by rw [e3]; exact hP) hS
  rw [e2, dec_enc] at K
  exact K
end ROWS2
def PostJ (ω : Wd) (L : Ly) (h : Int64) (M : Mm) (sz : Nat) : Array Value → State → Outcome → State → Prop := va_Ql (fun (q : Int64) (_ : Unit) => q = h) (fun _ t => va_P ω.1 vwCl (wW ω L M) t.heap) (aW ω L sz)
def MJ (l : Launch) (y : MethodName) (ws : List Cond) (rm : Room) (ω : Wd) (L : Ly) (av : List Value) (M : Mm) (M' : Mm) : Prop := ∀ sz : Nat, Met l y ws rm (PreW ω L av M sz) (PostJ ω L (dec M') M' sz) rm.cells rm.slots (aW ω L sz)
set_option maxHeartbeats 4000000 in
theorem met_j {l : Launch} {y : MethodName} {ws ws' : List Cond} {rm : Room} {cc : ByteArray} {maxL : Nat} {ω : Wd} {L : Ly} {av : List Value} {M M' : Mm} {r : Int32} (hy : plainName y.cls = true) (hw : ws = Cond.code y cc maxL (some .long) :: ws') (hav : (lg_sl av).length ≤ maxL) (hN : L.1.Nodup)
    (body : ∀ Γ : Cx, CxOk Γ l rm maxL ω L cc y.cls ws → RetJ Γ ω L cc → gT Γ = (r, M') → Vr 0 Γ ω L 0 (lv_args 0 av) [] M) : MJ l y ws rm ω L av M M' := by
  intro sz
  refine Met.ofW (cc := cc) (maxL := maxL) (ret := some .long) hy hw ?_
  intro p e s m args below meth c s₁ B hml hv
  obtain ⟨rfl, hsz, hP, hK, hD, hZ⟩ := hv
  subst hsz
  have hts := atoms_spec (ws := ws) B.pre
  have hlocks := B.notSynchronized
  have hl := lv_entry av (n := maxL) hav
  rw [lg_entry_eq]
  refine body (p, l, e, rm, s, m, av.toArray, below, meth, c, MQ below (PostJ ω L (dec M') M' s.heap.size) av.toArray s rm.cells rm.slots (aW ω L s.heap.size), aW ω L s.heap.size, maxL, (r, M')) ⟨rfl, rfl, rfl, B.exec, B.bytes, hml, findClass_of_methodNamed B.named, hts, hK, ⟨hD, fun q hq => Or.inl ⟨q, hq, rfl⟩⟩, fun q hq => Or.inr hq, hN, hZ⟩ ?_ rfl _ s.heap [] hl hP va_S.rf
  intro ct pc ls H locs hct hdg hP1 hS1
  refine W.widen hct.1 hct.2 ?_
  exact W.lret B.exec B.bytes B.returns (fun t ht hW => ⟨⟨_, (), rfl, rfl, by show va_P _ _ _ t.heap; rw [ht]; exact hP1⟩, hS1.F ht⟩) hS1.2.2 hdg hlocks
section CALLS2
variable {ct : Nat} {σ τ : Type} {Γ : Cx} {l : Launch} {rm : Room} {nL : Nat} {ω : Wd} {L : Ly} {cc : ByteArray} {own : String} {ws : List Cond} {em : σ → Mm} {pc : Nat} {lv : List (Nat × Value)} {st : List Value} {x : σ} {X Y : Option (Int32 × σ)}
set_option maxHeartbeats 4000000 in
/-- a method of an object that answers a float -/
theorem g_callF (h : CxOk Γ l rm nL ω L cc own ws) {C : String} {T : u_T} {N ci k a index maxL : Nat} {fs : List (Option (Nat × Nat))} {y : MethodName} {ws2 ws2' : List Cond} {rm2 : Room} {bytes : ByteArray} {As : List Value} {G : Option (Int32 × τ)} {F : Int32 → τ → Option (Int32 × σ)} (up : τ → σ)
    (hM : ∀ r t, G = some (r, t) → MF l y ws2 rm2 ω L (.ref (th ω k a) :: As) (em x) r (em (up t))) (hc : inL L k a (0, ci, fs)) (hcl : vwCl[ci]? = some (C, T, N)) (n : Nat) (hn : As.length = n) (hT : GoodIn ws (wsV own index C y ws2)) (hw : ws2 = Cond.code y bytes maxL (some .float) :: ws2') (hrc : rm2.cells = 0) (hrs : rm2.slots = 0)
    (hd : y.cls = C ∧ y.cls ≠ "java/lang/invoke/MethodHandle" ∧ y.cls ≠ "java/lang/invoke/VarHandle" ∧ (parseMethodDescriptor y.desc).map (fun d => d.parameters.length) = some n) (hRm : rm2.frames + 1 ≤ rm.frames ∧ 8 + (maxL + 11) + rm2.locals ≤ rm.locals) {st0 : List Value} (hst : st0 = As.reverse ++ .ref (th ω k a) :: st) (hsum : (st.map fun v => v.category).sum ≤ 8) (hdg : decode cc pc = .ok (.invokevirtual index, 3))
    (kk : ∀ r t, Gq ct Γ ω L em (pc + 3) lv (.float r.toUInt32 :: st) (up t) (F r t)) : Gq ct Γ ω L em pc lv st0 x (bnd G F) := by
  intro q hq ht hct
  obtain ⟨r0, t0, hG, hF⟩ := bnd_some hq
  have hM0 := hM r0 t0 hG
  have kk0 := kk r0 t0 q hF ht hct
  obtain ⟨p, l', e, R, s, m, args, below, meth, c, Q, A, nL', tgt⟩ := Γ
  obtain ⟨hll, hR, hnL, hx, hb, hml, hown, hts, hK, hD, hA, hN, hZ⟩ := h
  subst hll; subst hR; subst hnL
  intro ls H locs hh hP hS
  obtain ⟨p0, hp0, hp⟩ := wW_get (ω := ω) (M := em x) hc
  refine va_callf (va_runV (As := As) (rest := st) ⟨hx, hb, hml, hown, hts⟩ (hM0 H.size) (cwV n hts hT hw rfl rfl hd hRm) ⟨PreW_blind, va_recv hK hP hcl hp, fun U hU hW => ⟨rfl, by rw [hU], by rw [hU]; exact hP, va_K.moved hW.alike hK, hD.1, va_Nw.warmM hW hZ⟩⟩ rfl hn hh.1 hst (lv_room hsum) hdg ⟨by rw [hrc]; exact hct.1, by rw [hrs]; exact hct.2⟩) hS (fun q _ h => aW_S hD.2 hA hS q h) (aW_S hD.2 hA hS) (fun r u t H1 locs1 ht1 hvm hw hB hz1 hk1 hS1 => ?_)
  subst hw
  rw [ht1] at hB
  rw [hrc, hrs]
  exact kk0 ls H1 locs1 hh hB hS1
set_option maxHeartbeats 4000000 in
/-- a static method over the world that answers an int, and makes cA cells of 3 -/
theorem g_callS (h : CxOk Γ l rm nL ω L cc own ws) (cA : Nat) {index maxL : Nat} {ty : FieldType} {y : MethodName} {ws2 ws2' : List Cond} {rm2 : Room} {bytes : ByteArray} {As : List Value} {G : Option (Int32 × τ)} {F : Int32 → τ → Option (Int32 × σ)} (up : τ → σ) (hcx : CtOk Γ (ct + cA))
    (hM : ∀ r t, G = some (r, t) → MI l y ws2 rm2 ω L As (em x) r (em (up t))) (n : Nat) (hn : As.length = n) (hT : GoodIn ws (va_wsS own index y ws2)) (hw : ws2 = Cond.code y bytes maxL (some ty) :: ws2') (hrc : rm2.cells = cA) (hrs : rm2.slots = 3 * cA)
    (hd : y.cls ≠ "java/lang/invoke/MethodHandle" ∧ y.cls ≠ "java/lang/invoke/VarHandle" ∧ (parseMethodDescriptor y.desc).map (fun d => d.parameters.length) = some n) (hRm : rm2.frames + 1 ≤ rm.frames ∧ 8 + (maxL + 11) + rm2.locals ≤ rm.locals) {st0 : List Value} (hst : st0 = As.reverse ++ st) (hsum : (st.map fun v => v.category).sum ≤ 8) (hdg : decode cc pc = .ok (.invokestatic index, 3))
    (kk : ∀ r t, Gq (ct + cA) Γ ω L em (pc + 3) lv (.int r :: st) (up t) (F r t)) : Gq ct Γ ω L em pc lv st0 x (bnd G F) := by
  intro q hq ht hct
  obtain ⟨r0, t0, hG, hF⟩ := bnd_some hq
  have hM0 := hM r0 t0 hG
  have kk0 := kk r0 t0 q hF ht hcx
  obtain ⟨p, l', e, R, s, m, args, below, meth, c, Q, A, nL', tgt⟩ := Γ
  obtain ⟨hll, hR, hnL, hx, hb, hml, hown, hts, hK, hD, hA, hN, hZ⟩ := h
  subst hll; subst hR; subst hnL
  intro ls H locs hh hP hS
  have hcx1 : 3 * ct + 3 * cA ≤ R.slots := by rw [← Nat.mul_add]; exact hcx.2
  refine va_calli (va_runS (As := As) (rest := st) ⟨hx, hb, hml, hown, hts⟩ (hM0 H.size) (va_cwS n hts hT hw rfl rfl hd hRm) ⟨PreW_blind, fun U hU hW => ⟨rfl, by rw [hU], by rw [hU]; exact hP, va_K.moved hW.alike hK, hD.1, va_Nw.warmM hW hZ⟩⟩ rfl hn hh.1 hst (lv_room hsum) hdg ⟨by rw [hrc]; exact hcx.1, by rw [hrs]; exact hcx1⟩) hS (fun q _ h => aW_S hD.2 hA hS q h) (aW_S hD.2 hA hS) (fun r u t H1 locs1 ht1 hvm hw hB hz1 hk1 hS1 => ?_)
  subst hw
  rw [ht1] at hB
  have kk1 := kk0 ls H1 locs1 hh hB hS1
  rw [hrc, hrs, ← Nat.mul_add]
  exact kk1
set_option maxHeartbeats 4000000 in
/-- a static method over the world that answers a long -/
theorem g_callJ (h : CxOk Γ l rm nL ω L cc own ws) {index maxL : Nat} {y : MethodName} {ws2 ws2' : List Cond} {rm2 : Room} {bytes : ByteArray} {As : List Value} {x : Mm} {G : Option (Int32 × Mm)} {F : Int64 → Mm → Option (Int32 × Mm)}
    (hM : ∀ r t, G = some (r, t) → MJ l y ws2 rm2 ω L As x t) (n : Nat) (hn : As.length = n) (hT : GoodIn ws (va_wsS own index y ws2)) (hw : ws2 = Cond.code y bytes maxL (some .long) :: ws2') (hrc : rm2.cells = 0) (hrs : rm2.slots = 0)
    (hd : y.cls ≠ "java/lang/invoke/MethodHandle" ∧ y.cls ≠ "java/lang/invoke/VarHandle" ∧ (parseMethodDescriptor y.desc).map (fun d => d.parameters.length) = some n) (hRm : rm2.frames + 1 ≤ rm.frames ∧ 8 + (maxL + 11) + rm2.locals ≤ rm.locals) {st0 : List Value} (hst : st0 = As.reverse ++ st) (hsum : (st.map fun v => v.category).sum ≤ 8) (hdg : decode cc pc = .ok (.invokestatic index, 3))
    (kk : ∀ r t, Gq ct Γ ω L eI (pc + 3) lv (.long r :: st) t (F r t)) : Gq ct Γ ω L eI pc lv st0 x (bnd G (fun _ t => nm (dec t) (fun r => F r t))) := by
  intro q hq ht hct
  obtain ⟨r0, t0, hG, hF⟩ := bnd_some hq
  have hM0 := hM r0 t0 hG
  have kk0 := kk (dec t0) t0 q hF ht hct
  obtain ⟨p, l', e, R, s, m, args, below, meth, c, Q, A, nL', tgt⟩ := Γ
  obtain ⟨hll, hR, hnL, hx, hb, hml, hown, hts, hK, hD, hA, hN, hZ⟩ := h
  subst hll; subst hR; subst hnL
  intro ls H locs hh hP hS
  refine va_calll (va_runS (As := As) (rest := st) ⟨hx, hb, hml, hown, hts⟩ (hM0 H.size) (va_cwS n hts hT hw rfl rfl hd hRm) ⟨PreW_blind, fun U hU hW => ⟨rfl, by rw [hU], by rw [hU]; exact hP, va_K.moved hW.alike hK, hD.1, va_Nw.warmM hW hZ⟩⟩ rfl hn hh.1 hst (lv_room hsum) hdg ⟨by rw [hrc]; exact hct.1, by rw [hrs]; exact hct.2⟩) hS (fun q _ h => aW_S hD.2 hA hS q h) (aW_S hD.2 hA hS) (fun r u t H1 locs1 ht1 hvm hw hB hz1 hk1 hS1 => ?_)
  subst hw
  rw [ht1] at hB
  rw [hrc, hrs]
  exact kk0 ls H1 locs1 hh hB hS1
end CALLS2
/-! THE ROW OF COUNTS of the law's 'conkers': cell (13, 1) beside the game -/
def shH : Nat → Nat → Sh := fun k a => if k = 13 then (1, 3, []) else shC k a
def LH : Ly := (idC ++ [(13, 1)], shH)
theorem LH_nd : LH.1.Nodup := by decide +kernel
theorem LC_n9 : ∀ q ∈ LC.1, q.1 ≠ 99 := by decide +kernel
theorem LC_n13 : ∀ q ∈ LC.1, q.1 ≠ 13 := by decide +kernel
theorem LC_r13 : ∀ q ∈ LC.1, ∀ r, some r ∈ (shC q.1 q.2).2.2 → r.1 ≠ 13 := by
  have e : (LC.1.all fun q => (shC q.1 q.2).2.2.all fun r => match r with
    | some r => decide (r.1 ≠ 13)
    | none => true) = true := by decide +kernel
  intro q hq r hr
  have e1 := List.all_eq_true.mp (List.all_eq_true.mp e q hq) _ hr
  simpa using e1
theorem iH_0_0 : inL LH 0 0 (shC 0 0) := ⟨by decide +kernel, rfl⟩
theorem iH_13_1 : inL LH 13 1 (1, 3, []) := ⟨by decide +kernel, rfl⟩
theorem wH_app (ω : Wd) (M : Mm) : wW ω LH M = wW ω LC M ++ [(th ω 13 1, .inl (ω.2.1 0, 3, .inl (M 13 1)))] := by
  have e1 : LC.1.map (fun q => (th ω q.1 q.2, cE ω (LH.2 q.1 q.2) (M q.1 q.2))) = wW ω LC M := by
    unfold wW
    apply List.map_congr_left
    intro q hq
    have hk := LC_n13 q hq
    have e2 : LH.2 q.1 q.2 = LC.2 q.1 q.2 := by
      show shH q.1 q.2 = shC q.1 q.2
      unfold shH
      rw [if_neg hk]
    rw [e2]
  have e3 : wW ω LH M = LC.1.map (fun q => (th ω q.1 q.2, cE ω (LH.2 q.1 q.2) (M q.1 q.2))) ++ [(th ω 13 1, cE ω (LH.2 13 1) (M 13 1))] := by
    show (idC ++ [(13, 1)]).map _ = _
    rw [List.map_append]
    rfl
  rw [e3, e1]
  rfl
theorem cE_cong {ω ω' : Wd} (h1 : ω'.2.1 = ω.2.1) (h2 : ∀ k, th ω' k 0 = th ω k 0) {sh : Sh} (h3 : ∀ r, some r ∈ sh.2.2 → th ω' r.1 r.2 = th ω r.1 r.2) (f : Nat → Int32) : cE ω' sh f = cE ω sh f := by
  unfold cE
  rw [h1]
  have e1 : fV ω' f sh.2.2 = fV ω f sh.2.2 := by
    unfold fV
    apply List.map_congr_left
    intro j hj
    have hj1 := List.mem_range.mp hj
    cases hg : sh.2.2.getD j none with
    | none => rfl
    | some r =>
      have hm : some r ∈ sh.2.2 := by
        rw [List.getD_eq_getElem?_getD, List.getElem?_eq_getElem hj1] at hg
        simp only [Option.getD_some] at hg
        rw [← hg]
        exact List.getElem_mem hj1
      show Value.ref (th ω' r.1 r.2) = Value.ref (th ω r.1 r.2)
      rw [h3 r hm]
  have e2 : (fun j => some (th ω' (f j).toNatClampNeg 0)) = (fun j => some (th ω (f j).toNatClampNeg 0)) := by
    funext j
    rw [h2]
  rw [e1, e2]
theorem wC_cong {ω ω' : Wd} (h1 : ω'.2.1 = ω.2.1) (h2 : ∀ k a, ¬ (k = 13 ∧ a = 1) → th ω' k a = th ω k a) (M : Mm) : wW ω' LC M = wW ω LC M := by
  unfold wW
  apply List.map_congr_left
  intro q hq
  have hk := LC_n13 q hq
  have e1 : th ω' q.1 q.2 = th ω q.1 q.2 := h2 _ _ (fun e => hk e.1)
  have e2 : cE ω' (LC.2 q.1 q.2) (M q.1 q.2) = cE ω (LC.2 q.1 q.2) (M q.1 q.2) := cE_cong h1 (fun k => h2 k 0 (fun e => absurd e.2 (by decide))) (fun r hr => h2 _ _ (fun e => LC_r13 q hq r hr e.1)) _
  rw [e1, e2]
theorem apart_of {ω : Wd} {L : Ly} {M : Mm} {A : Nat → Prop} (hD : va_D A (wW ω L M)) : Apart ω L ∧ ∀ q ∈ L.1, A (th ω q.1 q.2) := by
  refine ⟨fun i j p q hi hj he => ?_, fun q hq => ?_⟩
  · exact hD.1 i j _ _ (by rw [wW_at, hi]; rfl) (by rw [wW_at, hj]; rfl) he
  · obtain ⟨k, hk⟩ := List.getElem?_of_mem hq
    exact hD.2 k _ (by rw [wW_at, hk]; rfl)
theorem LH_at {i : Nat} {p : Nat × Nat} (h : LC.1[i]? = some p) : LH.1[i]? = some p := by
  have h' : idC[i]? = some p := h
  show (idC ++ [(13, 1)])[i]? = some p
  rw [List.getElem?_append_left (List.getElem?_eq_some_iff.mp h').1]
  exact h'
theorem apartC {ω : Wd} (h : Apart ω LH) : Apart ω LC := fun i j p q hi hj he => h i j p q (LH_at hi) (LH_at hj) he
theorem apart13 {ω : Wd} (h : Apart ω LH) : ∀ q ∈ LC.1, th ω 13 1 ≠ th ω q.1 q.2 := by
  intro q hq e
  obtain ⟨k, hk⟩ := List.getElem?_of_mem hq
  have hl := (List.getElem?_eq_some_iff.mp hk).1
  have h1 : LH.1[LC.1.length]? = some (13, 1) := by
    show (idC ++ [(13, 1)])[idC.length]? = _
    rw [List.getElem?_append_right (Nat.le_refl _), Nat.sub_self]
    rfl
  have e2 := h _ _ _ _ h1 (LH_at hk) e
  omega
theorem ka_one {D : va_G} {tys : List (ClassId × FieldType)} {s : State} {c1 c2 : ClassId} (hK : va_K D vwCl tys s) (i j : Nat) (h1 : tys[i]? = some (c1, .int)) (h2 : tys[j]? = some (c2, .int)) : c1 = c2 := by
  have a := (hK.2 i _ h1).2
  have b := (hK.2 j _ h2).2
  exact Option.some.inj (a.symm.trans b)
theorem retI_H {Γ : Cx} {ω ω' : Wd} {cc : ByteArray} {ty : FieldType} (h0 : ω'.1 = ω.1) (h1 : ω'.2.1 = ω.2.1) (h2 : ∀ k a, ¬ (k = 13 ∧ a = 1) → th ω' k a = th ω k a) (hR : RetI Γ ω LC cc ty) : RetI Γ ω' LH cc ty := by
  intro ct pc ls H locs hct hdg hn hP hS
  refine hR ct pc ls H locs hct hdg hn ?_ hS
  rw [wH_app, wC_cong h1 h2, h0] at hP
  exact fun k q hk => hP k q (by rw [List.getElem?_append_left (List.getElem?_eq_some_iff.mp hk).1]; exact hk)
/-- the row of three counts is made -/
theorem wd_13 (ω : Wd) (q : Nat) : ∃ ω' : Wd, ω'.1 = ω.1 ∧ ω'.2.1 = ω.2.1 ∧ (∀ k a, ¬ (k = 13 ∧ a = 1) → th ω' k a = th ω k a) ∧ th ω' 13 1 = q := by
  have e1 : ∀ k a, ¬ (k = 13 ∧ a = 1) → (fun k a => if k = 13 ∧ a = 1 then q else ω.2.2 k a : Nat → Nat → Nat) k a = th ω k a := fun k a hne => if_neg hne
  have e2 : (fun k a => if k = 13 ∧ a = 1 then q else ω.2.2 k a : Nat → Nat → Nat) 13 1 = q := if_pos ⟨rfl, rfl⟩
  exact ⟨(ω.1, ω.2.1, fun k a => if k = 13 ∧ a = 1 then q else ω.2.2 k a), rfl, rfl, e1, e2⟩
set_option maxHeartbeats 4000000 in
theorem g_newH {ct : Nat} {Γ : Cx} {l : Launch} {rm : Room} {nL : Nat} {ω : Wd} {cc : ByteArray} {own : String} {ws : List Cond} {pc : Nat} {lv : List (Nat × Value)} {st : List Value} {M : Mm} (h : CxOk Γ l rm nL ω LC cc own ws) (harr : Cond.arrayClass .int ∈ ws) (hdg : decode cc pc = .ok (.newarray .int, 2)) (hct : CtOk Γ (ct + 1))
    (kk : ∀ ω' : Wd, CxOk Γ l rm nL ω' LH cc own ws → (∀ ty, RetI Γ ω LC cc ty → RetI Γ ω' LH cc ty) → th ω' 0 0 = th ω 0 0 → Vr (ct + 1) Γ ω' LH (pc + 2) lv (.ref (th ω' 13 1) :: st) (uM M 13 (fun _ _ => 0))) : Vr ct Γ ω LC pc lv (.int 3 :: st) M := by
  obtain ⟨p, l', e, R, s, m, args, below, meth, c, Q, A, nL', tgt⟩ := Γ
  have h' := h
  obtain ⟨h1, h2, h3, hx, hb, hml, hown, hts, hK, hD, hA, hN, hZ⟩ := h'
  intro ls H locs hh hP hS
  have hcs : 3 * ct + 3 ≤ R.slots := by have := hct.2; omega
  refine va_newa (atype := .int) (ty := .int) (a0 := (3, .inl (fun _ => 0))) (N' := 3) hx hb (hts (.arrayClass .int) harr) rfl hK hP (wD hD M) hS hA (fun _ => rfl) (by decide) (by decide) (by decide) hct.1 hcs hdg (fun q k5 H1 hK1 hP1 hD1 hS1 => ?_)
  have ek : k5 = ω.2.1 0 := ka_one hK1 3 0 rfl rfl
  subst ek
  obtain ⟨ω', w1, w2, e2, w4⟩ := wd_13 ω q
  have eW : wW ω' LH (uM M 13 (fun _ _ => 0)) = wW ω LC M ++ [(q, .inl (ω.2.1 0, 3, .inl (fun _ => 0)))] := by
    rw [wH_app, wC_cong w2 e2, wW_off (M := M) (fun z hz => uM_ne _ _ _ (LC_n13 z hz)), uM_same, w2, w4]
  have hP2 := hP1
  have hD2 := hD1
  rw [← eW] at hP2 hD2
  rw [← w1] at hP2
  have eS : 3 * (ct + 1) = 3 * ct + 3 := by omega
  have hK' : va_K ω'.1 vwCl (tyW ω') s := by
    show va_K ω'.1 vwCl [(ω'.2.1 0, .int), (ω'.2.1 1, .char), (ω'.2.1 2, .object RX4)] s
    rw [w1, w2]
    exact hK
  have K := kk ω' ⟨h1, h2, h3, hx, hb, hml, hown, hts, hK', apart_of hD2, hA, LH_nd, hZ⟩ (fun ty hR => retI_H w1 w2 e2 hR) (e2 0 0 (by decide)) ls H1 locs hh hP2 hS1
  have K' : W p l' e R s m args below meth c H1 locs (ct + 1) (3 * (ct + 1)) Q (F0 m (pc + 2) ls (.ref (th ω' 13 1) :: st)) := K
  rw [eS, w4] at K'
  exact K'
set_option maxHeartbeats 4000000 in
/-- from beside the row of counts: a method of the face that answers an int -/
theorem g_callH {ct : Nat} {Γ : Cx} {l : Launch} {rm : Room} {nL : Nat} {ω : Wd} {cc : ByteArray} {own : String} {ws : List Cond} {pc : Nat} {lv : List (Nat × Value)} {st : List Value} {x : Mm} (h : CxOk Γ l rm nL ω LH cc own ws) {index maxL : Nat} {ty : FieldType} {y : MethodName} {ws2 ws2' : List Cond} {rm2 : Room} {bytes : ByteArray} {As : List Value} {G : Option (Int32 × Mm)} {F : Int32 → Mm → Option (Int32 × Mm)}
    (hM : ∀ r t, G = some (r, t) → MI l y ws2 rm2 ω LC (.ref (th ω 0 0) :: As) x r t) (n : Nat) (hn : As.length = n) (hT : GoodIn ws (wsV own index RX5 y ws2)) (hw : ws2 = Cond.code y bytes maxL (some ty) :: ws2') (hrc : rm2.cells = 0) (hrs : rm2.slots = 0)
    (hd : y.cls = RX5 ∧ y.cls ≠ "java/lang/invoke/MethodHandle" ∧ y.cls ≠ "java/lang/invoke/VarHandle" ∧ (parseMethodDescriptor y.desc).map (fun d => d.parameters.length) = some n) (hRm : rm2.frames + 1 ≤ rm.frames ∧ 8 + (maxL + 11) + rm2.locals ≤ rm.locals) {st0 : List Value} (hst : st0 = As.reverse ++ .ref (th ω 0 0) :: st) (hsum : (st.map fun v => v.category).sum ≤ 8) (hdg : decode cc pc = .ok (.invokevirtual index, 3))
    (kk : ∀ r t, Gq ct Γ ω LH eI (pc + 3) lv (.int r :: st) (uM t 13 (x 13)) (F r t)) : Gq ct Γ ω LH eI pc lv st0 x (bnd G F) := by
  intro q hq ht hct
  obtain ⟨r0, t0, hG, hF⟩ := bnd_some hq
  have hM0 := hM r0 t0 hG
  have kk0 := kk r0 t0 q hF ht hct
  obtain ⟨p, l', e, R, s, m, args, below, meth, c, Q, A, nL', tgt⟩ := Γ
  obtain ⟨hll, hR, hnL, hx, hb, hml, hown, hts, hK, hD, hA, hN, hZ⟩ := h
  subst hll; subst hR; subst hnL
  intro ls H locs hh hP hS
  have hP0 : va_P ω.1 vwCl (wW ω LH x) H := hP
  rw [wH_app] at hP0
  have hPC : va_P ω.1 vwCl (wW ω LC x) H := fun k z hk => hP0 k z (by rw [List.getElem?_append_left (List.getElem?_eq_some_iff.mp hk).1]; exact hk)
  have hPR : va_P ω.1 vwCl [(th ω 13 1, .inl (ω.2.1 0, 3, .inl (x 13 1)))] H := fun k z hk => hP0 ((wW ω LC x).length + k) z (by rw [List.getElem?_append_right (Nat.le_add_right _ _), Nat.add_sub_cancel_left]; exact hk)
  obtain ⟨p0, hp0, hp⟩ := wW_get (ω := ω) (M := x) iC_0_0
  have hAC : ∀ q ∈ LC.1, A (th ω q.1 q.2) := fun q hq => hD.2 q (List.mem_append_left _ hq)
  refine va_calli (va_runV (As := As) (rest := st) ⟨hx, hb, hml, hown, hts⟩ (hM0 H.size) (cwV n hts hT hw rfl rfl hd hRm) ⟨PreW_blind, va_recv hK hPC rfl hp, fun U hU hW => ⟨rfl, by rw [hU], by rw [hU]; exact hPC, va_K.moved hW.alike hK, apartC hD.1, va_Nw.warmM hW hZ⟩⟩ rfl hn hh.1 hst (lv_room hsum) hdg ⟨by rw [hrc]; exact hct.1, by rw [hrs]; exact hct.2⟩) hS (fun q _ h => aW_S hAC hA hS q h) (aW_S hAC hA hS) (fun r u t H1 locs1 ht1 hvm hw hB hz1 hk1 hS1 => ?_)
  subst hw
  rw [ht1] at hB
  rw [hrc, hrs]
  refine kk0 ls H1 locs1 hh ?_ hS1
  show va_P ω.1 vwCl (wW ω LH (uM t0 13 (x 13))) H1
  rw [wH_app, wW_off (M := t0) (fun z hz => uM_ne _ _ _ (LC_n13 z hz)), uM_same]
  refine va_P.app hB (hPR.kept (fun k z hz => ?_))
  have hlt := (hPR k z hz).lt
  have ez : z.1 = th ω 13 1 := by
    match k, hz with
    | 0, hz => cases hz; rfl
  refine hk1 z.1 hlt (fun hq => ?_)
  rcases hq with ⟨q, hq, e2⟩ | hq
  · exact apart13 hD.1 q hq (ez.symm.trans e2)
  · omega
theorem ctRm {Γ : Cx} {l : Launch} {rm : Room} {nL : Nat} {ω : Wd} {L : Ly} {cc : ByteArray} {own : String} {ws : List Cond} (h : CxOk Γ l rm nL ω L cc own ws) {A : Nat} (h1 : 0 + A ≤ rm.cells) (h2 : 3 * (0 + A) ≤ rm.slots) : CtOk Γ (0 + A) := by
  have e := h.2.1
  exact ⟨by rw [e]; exact h1, by rw [e]; exact h2⟩
/-! THE SCRIPT -/
def XOk (Γ : Cx) (b N : Nat) (xs : Nat → Int32) : Prop := va_X b N xs (gs Γ) (gs Γ).heap ∧ b < (gs Γ).heap.size ∧ ¬ gA Γ b ∧ N < 2 ^ 30
def cellV (N : Nat) (xs : Nat → Int32) (k : Int32) : Int32 := if k.toNatClampNeg < N then xs k.toNatClampNeg else 1063091093 * (k + 1) + 473848443
def PreX (b N : Nat) (xs : Nat → Int32) (k : Int32) (sz : Nat) : Array Value → State → Prop := va_Pc [.ref b, .int k] (fun U => U.heap.size = sz ∧ va_X b N xs U U.heap ∧ b < U.heap.size)
def PostX (N : Nat) (xs : Nat → Int32) (k : Int32) (sz : Nat) : Array Value → State → Outcome → State → Prop := va_Qi (fun (q : Int32) (_ : Unit) => q = cellV N xs k) (fun _ _ => True) (fun q => sz ≤ q)
theorem PreX_blind {b N : Nat} {xs : Nat → Int32} {k : Int32} {sz : Nat} : FrameBlind (PreX b N xs k sz) := fun a U g mk q => by
  obtain ⟨q0, q1, qX, qb⟩ := q
  exact ⟨q0, q1, va_X.moved (u := U) (U := U.calling g mk a) (Vm.Alike.refl U.vm) qX, qb⟩
set_option maxHeartbeats 4000000 in
theorem c_L_cell (l : Launch) {b N : Nat} (xs : Nat → Int32) {k : Int32} (hk : 0 ≤ k) (hN : N < 2 ^ 30) (sz : Nat) : Met l yL_cell wsL_cell (⟨0, 0, 0, 0⟩ : Room) (PreX b N xs k sz) (PostX N xs k sz) 0 0 (fun q => sz ≤ q) := by
  refine Met.ofW (cc := cL_cell) (maxL := 2) (ret := some .int) (by decide +kernel) rfl ?_
  intro p e s m args below meth c s₁ B hml hv
  obtain ⟨rfl, hsz, hX, hbl⟩ := hv
  subst hsz
  have hts := atoms_spec (ws := wsL_cell) B.pre
  have hlocks := B.notSynchronized
  have hx := B.exec
  have hb := B.bytes
  have hown : s.vm.findClass RL = some m.cls := findClass_of_methodNamed B.named
  have hl := lv_entry [.ref b, .int k] (n := 2) (Nat.le_of_ble_eq_true rfl)
  rw [lg_entry_eq]
  generalize (lg_sl ([.ref b, .int k]) ++ List.replicate (2 - (lg_sl ([.ref b, .int k])).length) Slot.unset).toArray = ls at hl ⊢
  have hl : lv_has ls 2 [(0, .ref b), (1, .int k)] := hl
  have hS : va_S (fun q => s.heap.size ≤ q) s.heap s.heap [] := va_S.rf
  have hbA : ¬ (fun q => s.heap.size ≤ q) b := Nat.not_le.mpr hbl
  obtain ⟨j, hj, ej⟩ : ∃ j : Nat, j < 2 ^ 31 ∧ k = Int32.ofNat j := nI_of (fun h => by
    have h1 := Int32.le_iff_toInt_le.mp hk
    have h2 := Int32.lt_iff_toInt_lt.mp h
    omega)
  subst ej
  have ec : (Int32.ofNat j).toNatClampNeg = j := nI_clamp hj
  refine lv_iload_n hx hb dL_cell_0 rfl (lv_at hl 1 rfl) ?_
  refine lv_aload_n hx hb dL_cell_1 rfl (lv_at hl 0 rfl) ?_
  refine va_slen hx hb hX hbl hbA hS dL_cell_2 ?_
  refine lv_icmp_ge hx hb dL_cell_3 (tgt := 12) (by decide) (fun hc => ?_) (fun hc => ?_)
  · have hlt : ¬ j < N := fun h => by
      have h1 := Int32.le_iff_toInt_le.mp hc
      rw [show (Int32.ofNat N).toInt = N from nI_toInt (by omega), show (Int32.ofNat j).toInt = j from nI_toInt hj] at h1
      omega
    refine lv_ldc hx hb hown (hts _ (by decide +kernel : Cond.constant RL 7 (1063091093) ∈ wsL_cell)) dL_cell_12 ?_
    refine lv_iload_n hx hb dL_cell_14 rfl (lv_at hl 1 rfl) ?_
    refine lv_iconst (v := 1) hx hb dL_cell_15 (by decide) ?_
    refine lv_iadd hx hb dL_cell_16 ?_
    refine lv_imul hx hb dL_cell_17 ?_
    refine lv_ldc hx hb hown (hts _ (by decide +kernel : Cond.constant RL 8 (473848443) ∈ wsL_cell)) dL_cell_18 ?_
    refine lv_iadd hx hb dL_cell_20 ?_
    exact W.zret hx hb B.returns (ty := .int) rfl (fun t ht hW => ⟨⟨_, (), rfl, by unfold cellV; rw [ec, if_neg hlt], trivial⟩, hS.F ht⟩) hS.2.2 dL_cell_21 hlocks
  · have hlt : j < N := by
      apply Classical.byContradiction
      intro h
      apply hc
      rw [Int32.le_iff_toInt_le, show (Int32.ofNat N).toInt = N from nI_toInt (by omega), show (Int32.ofNat j).toInt = j from nI_toInt hj]
      omega
    refine lv_aload_n hx hb dL_cell_6 rfl (lv_at hl 0 rfl) ?_
    refine lv_iload_n hx hb dL_cell_7 rfl (lv_at hl 1 rfl) ?_
    refine va_sld hx hb hX hbl hbA hS (nI_in hlt (by omega)) dL_cell_8 ?_
    refine lv_goto hx hb dL_cell_9 (tgt := 21) (by decide) ?_
    exact W.zret hx hb B.returns (ty := .int) rfl (fun t ht hW => ⟨⟨_, (), rfl, by unfold cellV; rw [ec, if_pos hlt], trivial⟩, hS.F ht⟩) hS.2.2 dL_cell_21 hlocks
set_option maxHeartbeats 4000000 in
theorem g_cell {ct : Nat} {σ : Type} {Γ : Cx} {l : Launch} {rm : Room} {nL : Nat} {ω : Wd} {L : Ly} {cc : ByteArray} {ws : List Cond} {em : σ → Mm} {pc : Nat} {lv : List (Nat × Value)} {st : List Value} {x : σ} {X : Option (Int32 × σ)} {b N : Nat} {xs : Nat → Int32} {i : Int32} {index : Nat} (h : CxOk Γ l rm nL ω L cc RL ws) (hX : XOk Γ b N xs) (hT : GoodIn ws (va_wsS RL index yL_cell wsL_cell)) (hRm : 0 + 1 ≤ rm.frames ∧ 8 + (2 + 11) + 0 ≤ rm.locals) (hsum : (st.map fun v => v.category).sum ≤ 8) (hdg : decode cc pc = .ok (.invokestatic index, 3))
    (kk : Gq ct Γ ω L em (pc + 3) lv (.int (cellV N xs i) :: st) x X) : Gq ct Γ ω L em pc lv (.int i :: .ref b :: st) x (gd (decide (0 ≤ i)) X) := by
  refine g_gd (fun hi => ?_)
  have hi := of_decide_eq_true hi
  intro q hq ht hct
  have kk0 := kk q hq ht hct
  obtain ⟨p, l', e, R, s, m, args, below, meth, c, Q, A, nL', tgt⟩ := Γ
  obtain ⟨hll, hR, hnL, hx, hb, hml, hown, hts, hK, hD, hA, hN, hZ⟩ := h
  obtain ⟨hXX, hbl, hbA, hNN⟩ := hX
  subst hll; subst hR; subst hnL
  intro ls H locs hh hP hS
  refine va_calli (va_runS (As := [.ref b, .int i]) (rest := st) ⟨hx, hb, hml, hown, hts⟩ (c_L_cell l' xs hi hNN H.size) (va_cwS 2 hts hT rfl rfl rfl (by decide +kernel) hRm) ⟨PreX_blind, fun U hU hW => ⟨rfl, by rw [hU], by rw [hU]; exact va_X.moved hW.alike (hXX.kept (hS.2.1 b hbl hbA)), by rw [hU]; exact Nat.lt_of_lt_of_le hbl hS.1⟩⟩ rfl rfl hh.1 rfl (lv_room hsum) hdg ⟨hct.1, hct.2⟩) hS (fun q hl h => absurd hl (Nat.not_lt.mpr h)) (fun q h => hA q (Nat.le_trans hS.1 h)) (fun r u t H1 locs1 ht1 hvm hw hB hz1 hk1 hS1 => ?_)
  subst hw
  exact kk0 ls H1 locs1 hh (hP.kept (fun k q hk => hk1 q.1 (hP k q hk).lt (fun h => absurd (hP k q hk).lt (Nat.not_lt.mpr h)))) hS1
