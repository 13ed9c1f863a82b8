/-! THE LAW'S OWN ROWS: both worlds in one heap -/
abbrev Lx : Type := Program × Env × State × MethodId × List Frame × Method × Code × Nat × Wd × (Nat → Nat → Nat) × (State → Prop) × Launch
abbrev wO (ω : Wd) (ad : Nat → Nat → Nat) : Wd := (ω.1, ω.2.1, ad)
def aL (s : State) : Nat → Prop := fun q => s.heap.size ≤ q
/-- from this place of the law, with these locals, this stack and these memories, the machine comes to the law's end -/
def WL (Γ : Lx) (pc : Nat) (lv : List (Nat × Value)) (st : List Value) (M : Mm) (TM : Tm) : Prop := match Γ with
  | (p, e, s, m, below, meth, c, b, ω, ad, Q, l) => ∀ (ls : Array Slot) (H : Heap) (locs : List Loc), lv_has ls 8 lv → va_P ω.1 vwCl (wW ω LC M) H → va_P ω.1 vwCl (wW (wO ω ad) LM (uM M00 0 TM)) H → va_S (aL s) s.heap H locs → W p l e room_1 s m #[Value.ref b] below meth c H locs 600000 7302250 Q (F0 m pc ls st)
def LOk (Γ : Lx) (n : Nat) (xs : Nat → Int32) : Prop := match Γ with
  | (p, _, s, m, _, _, c, b, ω, ad, _, _) => p.tables.exec = Jvm.exec ∧ c.code = cL_law ∧ c.maxLocals = 8 ∧ s.vm.findClass RL = some m.cls ∧ (∀ w ∈ wsL_law, w.before #[Value.ref b] s = true) ∧ va_X b n xs s s.heap ∧ b < s.heap.size ∧ va_K ω.1 vwCl (tyW ω) s ∧ (Apart ω LC ∧ ∀ q ∈ LC.1, aL s (th ω q.1 q.2)) ∧ (Apart (wO ω ad) LM ∧ ∀ q ∈ LM.1, aL s (th (wO ω ad) q.1 q.2)) ∧ (∀ q ∈ LC.1, ∀ q' ∈ LM.1, th ω q.1 q.2 ≠ th (wO ω ad) q'.1 q'.2) ∧ Nst s
theorem wW_mem {ω : Wd} {L : Ly} {M : Mm} {k : Nat} {x : Nat × va_E} (h : (wW ω L M)[k]? = some x) : ∃ q ∈ L.1, x.1 = th ω q.1 q.2 := by
  rw [wW_at] at h
  cases h1 : L.1[k]? with
  | none => rw [h1] at h; cases h
  | some q =>
    rw [h1] at h
    cases h
    exact ⟨q, List.mem_of_getElem? h1, rfl⟩
section LAWROWS
variable {Γ : Lx} {n : Nat} {xs : Nat → Int32} {pc : Nat} {lv lv' : List (Nat × Value)} {st : List Value} {M M' : Mm} {TM TM' : Tm}
theorem L_aload_n (h : LOk Γ n xs) {k : Fin 4} {i : Nat} {x : Nat} (j : Nat) (hdg : decode cL_law pc = .ok (.aload_n k, 1)) (hi : (k : Nat) = i) (hj : lv[j]? = some (i, .ref x)) (kk : WL Γ (pc + 1) lv (.ref x :: st) M TM) : WL Γ pc lv st M TM := by
  obtain ⟨p, e, s, m, below, meth, c, b, ω, ad, Q, l⟩ := Γ
  obtain ⟨hx, hb, _⟩ := h
  exact fun ls H locs hh hP hP' hS => lv_aload_n hx hb hdg hi (lv_at hh j hj) (kk ls H locs hh hP hP' hS)
theorem L_iload_n (h : LOk Γ n xs) {k : Fin 4} {i : Nat} {x : Int32} (j : Nat) (hdg : decode cL_law pc = .ok (.iload_n k, 1)) (hi : (k : Nat) = i) (hj : lv[j]? = some (i, .int x)) (kk : WL Γ (pc + 1) lv (.int x :: st) M TM) : WL Γ pc lv st M TM := by
  obtain ⟨p, e, s, m, below, meth, c, b, ω, ad, Q, l⟩ := Γ
  obtain ⟨hx, hb, _⟩ := h
  exact fun ls H locs hh hP hP' hS => lv_iload_n hx hb hdg hi (lv_at hh j hj) (kk ls H locs hh hP hP' hS)
theorem L_iconst (h : LOk Γ n xs) {z : Int} (v : Int32) (hdg : decode cL_law pc = .ok (.iconst z, 1)) (hv : Int32.ofInt z = v) (kk : WL Γ (pc + 1) lv (.int v :: st) M TM) : WL Γ pc lv st M TM := by
  obtain ⟨p, e, s, m, below, meth, c, b, ω, ad, Q, l⟩ := Γ
  obtain ⟨hx, hb, _⟩ := h
  exact fun ls H locs hh hP hP' hS => lv_iconst hx hb hdg hv (kk ls H locs hh hP hP' hS)
theorem L_bipush (h : LOk Γ n xs) {z : Int} (v : Int32) (hdg : decode cL_law pc = .ok (.bipush z, 2)) (hv : (Int8.ofInt z).toInt32 = v) (kk : WL Γ (pc + 2) lv (.int v :: st) M TM) : WL Γ pc lv st M TM := by
  obtain ⟨p, e, s, m, below, meth, c, b, ω, ad, Q, l⟩ := Γ
  obtain ⟨hx, hb, _⟩ := h
  exact fun ls H locs hh hP hP' hS => lv_bipush hx hb hdg hv (kk ls H locs hh hP hP' hS)
theorem L_iadd (h : LOk Γ n xs) {x y : Int32} (hdg : decode cL_law pc = .ok (.iadd, 1)) (kk : WL Γ (pc + 1) lv (.int (x + y) :: st) M TM) : WL Γ pc lv (.int y :: .int x :: st) M TM := by
  obtain ⟨p, e, s, m, below, meth, c, b, ω, ad, Q, l⟩ := Γ
  obtain ⟨hx, hb, _⟩ := h
  exact fun ls H locs hh hP hP' hS => lv_iadd hx hb hdg (kk ls H locs hh hP hP' hS)
theorem L_isub (h : LOk Γ n xs) {x y : Int32} (hdg : decode cL_law pc = .ok (.isub, 1)) (kk : WL Γ (pc + 1) lv (.int (x - y) :: st) M TM) : WL Γ pc lv (.int y :: .int x :: st) M TM := by
  obtain ⟨p, e, s, m, below, meth, c, b, ω, ad, Q, l⟩ := Γ
  obtain ⟨hx, hb, _⟩ := h
  exact fun ls H locs hh hP hP' hS => lv_isub hx hb hdg (kk ls H locs hh hP hP' hS)
theorem L_iand (h : LOk Γ n xs) {x y : Int32} (hdg : decode cL_law pc = .ok (.iand, 1)) (kk : WL Γ (pc + 1) lv (.int (x &&& y) :: st) M TM) : WL Γ pc lv (.int y :: .int x :: st) M TM := by
  obtain ⟨p, e, s, m, below, meth, c, b, ω, ad, Q, l⟩ := Γ
  obtain ⟨hx, hb, _⟩ := h
  exact fun ls H locs hh hP hP' hS => lv_iand hx hb hdg (kk ls H locs hh hP hP' hS)
theorem L_goto (h : LOk Γ n xs) {off : Int} (tgt : Nat) (hdg : decode cL_law pc = .ok (.goto off, 3)) (ht : (pc : Int) + off = (tgt : Int)) (kk : WL Γ tgt lv st M TM) : WL Γ pc lv st M TM := by
  obtain ⟨p, e, s, m, below, meth, c, b, ω, ad, Q, l⟩ := Γ
  obtain ⟨hx, hb, _⟩ := h
  exact fun ls H locs hh hP hP' hS => lv_goto hx hb hdg ht (kk ls H locs hh hP hP' hS)
theorem L_istore_n (h : LOk Γ n xs) {k : Fin 4} {i : Nat} {v : Int32} (hdg : decode cL_law pc = .ok (.istore_n k, 1)) (hi : (k : Nat) = i) (hn : i < 8) (hl : (i, Value.int v) :: lv.filter (fun q => !(q.1 == i) && !(q.1 + 1 == i && q.2.category == 2)) = lv') (kk : WL Γ (pc + 1) lv' st M TM) : WL Γ pc lv (.int v :: st) M TM := by
  obtain ⟨p, e, s, m, below, meth, c, b, ω, ad, Q, l⟩ := Γ
  obtain ⟨hx, hb, _⟩ := h
  exact fun ls H locs hh hP hP' hS => lv_istore_n hx hb hdg hi hh hn hl (fun ls' hh' => kk ls' H locs hh' hP hP' hS)
theorem L_iinc (h : LOk Γ n xs) {i k : Nat} {z : Int} {x v : Int32} (hdg : decode cL_law pc = .ok (.iinc i z, 3)) (hk : lv[k]? = some (i, .int x)) (hv : x + Int32.ofInt z = v) (hn : i < 8) (hl : (i, Value.int v) :: lv.filter (fun q => !(q.1 == i) && !(q.1 + 1 == i && q.2.category == 2)) = lv') (kk : WL Γ (pc + 3) lv' st M TM) : WL Γ pc lv st M TM := by
  obtain ⟨p, e, s, m, below, meth, c, b, ω, ad, Q, l⟩ := Γ
  obtain ⟨hx, hb, _⟩ := h
  exact fun ls H locs hh hP hP' hS => lv_iinc hx hb hdg hh hk hv hn hl (fun ls' hh' => kk ls' H locs hh' hP hP' hS)
theorem L_icmp_eq (h : LOk Γ n xs) {r : Int32} {off : Int} (tgt : Nat) (hdg : decode cL_law pc = .ok (.if_icmp .eq off, 3)) (ht : (pc : Int) + off = (tgt : Int)) (kk : WL Γ tgt lv st M TM) : WL Γ pc lv (.int r :: .int r :: st) M TM := by
  obtain ⟨p, e, s, m, below, meth, c, b, ω, ad, Q, l⟩ := Γ
  obtain ⟨hx, hb, _⟩ := h
  exact fun ls H locs hh hP hP' hS => lv_icmp_eq hx hb hdg ht (fun _ => kk ls H locs hh hP hP' hS) (fun hne => absurd rfl hne)
theorem L_icmp_gt (h : LOk Γ n xs) {x y : Int32} {off : Int} (tgt : Nat) (hdg : decode cL_law pc = .ok (.if_icmp .gt off, 3)) (ht : (pc : Int) + off = (tgt : Int)) (kt : y < x → WL Γ tgt lv st M TM) (kf : ¬ y < x → WL Γ (pc + 3) lv st M TM) : WL Γ pc lv (.int y :: .int x :: st) M TM := by
  obtain ⟨p, e, s, m, below, meth, c, b, ω, ad, Q, l⟩ := Γ
  obtain ⟨hx, hb, _⟩ := h
  exact fun ls H locs hh hP hP' hS => lv_icmp_gt hx hb hdg ht (fun q => kt q ls H locs hh hP hP' hS) (fun q => kf q ls H locs hh hP hP' hS)
theorem L_tsIn (h : LOk Γ n xs) {dflt lo hi : Int} {offs : Array Int} {len : Nat} {a : Int32} (v : Int32) {off : Int} (tgt : Nat) (hab : a = v) (hdg : decode cL_law pc = .ok (.tableswitch dflt lo hi offs, len)) (h1 : ¬ v.toInt < lo) (h2 : ¬ hi < v.toInt) (ho : offs[(v.toInt - lo).toNat]? = some off) (ht : (pc : Int) + off = (tgt : Int)) (kk : WL Γ tgt lv st M TM) : WL Γ pc lv (.int a :: st) M TM := by
  obtain ⟨p, e, s, m, below, meth, c, b, ω, ad, Q, l⟩ := Γ
  obtain ⟨hx, hb, _⟩ := h
  subst hab
  exact fun ls H locs hh hP hP' hS => lv_tableIn hx hb hdg h1 h2 ho ht (kk ls H locs hh hP hP' hS)
theorem L_tsOut (h : LOk Γ n xs) {dflt lo hi : Int} {offs : Array Int} {len : Nat} {a : Int32} (tgt : Nat) (hout : a.toInt < lo ∨ hi < a.toInt) (hdg : decode cL_law pc = .ok (.tableswitch dflt lo hi offs, len)) (ht : (pc : Int) + dflt = (tgt : Int)) (kk : WL Γ tgt lv st M TM) : WL Γ pc lv (.int a :: st) M TM := by
  obtain ⟨p, e, s, m, below, meth, c, b, ω, ad, Q, l⟩ := Γ
  obtain ⟨hx, hb, _⟩ := h
  exact fun ls H locs hh hP hP' hS => lv_tableOut hx hb hdg hout ht (kk ls H locs hh hP hP' hS)
theorem L_slen (h : LOk Γ n xs) {q0 : Nat} (hq : q0 = Γ.2.2.2.2.2.2.2.1) (hdg : decode cL_law pc = .ok (.arraylength, 1)) (kk : WL Γ (pc + 1) lv (.int (Int32.ofNat n) :: st) M TM) : WL Γ pc lv (.ref q0 :: st) M TM := by
  obtain ⟨p, e, s, m, below, meth, c, b, ω, ad, Q, l⟩ := Γ
  obtain ⟨hx, hb, hml, hown, hts, hX, hbl, _⟩ := h
  subst hq
  exact fun ls H locs hh hP hP' hS => va_slen hx hb hX hbl (Nat.not_le.mpr hbl) hS hdg (kk ls H locs hh hP hP' hS)
theorem L_sld (h : LOk Γ n xs) {q0 : Nat} (hq : q0 = Γ.2.2.2.2.2.2.2.1) {i : Int32} {j : Nat} (hi : i = nI j) (hj : j < n) (hn : n ≤ 2048) (hdg : decode cL_law pc = .ok (.iaload, 1)) (kk : WL Γ (pc + 1) lv (.int (xs j) :: st) M TM) : WL Γ pc lv (.int i :: .ref q0 :: st) M TM := by
  obtain ⟨p, e, s, m, below, meth, c, b, ω, ad, Q, l⟩ := Γ
  obtain ⟨hx, hb, hml, hown, hts, hX, hbl, _⟩ := h
  subst hq
  subst hi
  have e1 : (nI j).toNatClampNeg = j := cl_nI (by omega)
  refine fun ls H locs hh hP hP' hS => va_sld hx hb hX hbl (Nat.not_le.mpr hbl) hS (nI_in hj (by omega)) hdg ?_
  rw [e1]
  exact kk ls H locs hh hP hP' hS
set_option maxHeartbeats 4000000 in
/-- a call of the class -/
theorem L_callC (h : LOk Γ n xs) {index maxL : Nat} {ty : FieldType} {y : MethodName} {ws2 ws2' : List Cond} {rm2 : Room} {bytes : ByteArray} {As : List Value} {r : Int32} (hM : MI Γ.2.2.2.2.2.2.2.2.2.2.2 y ws2 rm2 Γ.2.2.2.2.2.2.2.2.1 LC (.ref (th Γ.2.2.2.2.2.2.2.2.1 0 0) :: As) M r M') (k : Nat) (hn : As.length = k) (hT : GoodIn wsL_law (wsV RL index RX5 y ws2)) (hw : ws2 = Cond.code y bytes maxL (some ty) :: ws2') (hrc : rm2.cells = 0) (hrs : rm2.slots = 0)
    (hd : y.cls = RX5 ∧ y.cls ≠ "java/lang/invoke/MethodHandle" ∧ y.cls ≠ "java/lang/invoke/VarHandle" ∧ (parseMethodDescriptor y.desc).map (fun d => d.parameters.length) = some k) (hRm : rm2.frames + 1 ≤ 8 ∧ 8 + (maxL + 11) + rm2.locals ≤ 292) {st0 : List Value} (hst : st0 = As.reverse ++ .ref (th Γ.2.2.2.2.2.2.2.2.1 0 0) :: st) (hsum : (st.map fun v => v.category).sum ≤ 8) (hdg : decode cL_law pc = .ok (.invokevirtual index, 3))
    (kk : WL Γ (pc + 3) lv (.int r :: st) M' TM) : WL Γ pc lv st0 M TM := by
  obtain ⟨p, e, s, m, below, meth, c, b, ω, ad, Q, l⟩ := Γ
  obtain ⟨hx, hb, hml, hown, hts, hX, hbl, hK, hD, hD', hne, hZ⟩ := h
  intro ls H locs hh hP hP' hS
  obtain ⟨p0, hp0, hp⟩ := wW_get (ω := ω) (M := M) iC_0_0
  refine va_calli (va_runV (As := As) (rest := st) ⟨hx, hb, hml, hown, hts⟩ (hM H.size) (cwV k hts hT hw hrc hrs hd hRm) ⟨PreW_blind, va_recv hK hP rfl hp, fun U hU hW => ⟨rfl, by rw [hU], by rw [hU]; exact hP, va_K.moved hW.alike hK, hD.1, va_Nw.warmM hW hZ⟩⟩ rfl hn hh.1 hst (lv_room hsum) hdg ⟨by decide, by decide⟩) hS (fun q _ h => aW_S hD.2 (fun _ h => h) hS q h) (aW_S hD.2 (fun _ h => h) hS) (fun r u t H1 locs1 ht1 hvm hw hB hz1 hk1 hS1 => ?_)
  subst hw
  rw [ht1] at hB
  refine kk ls H1 locs1 hh hB (hP'.kept (fun k x hx => ?_)) hS1
  have hlt := (hP' k x hx).lt
  refine hk1 x.1 hlt (fun hq => ?_)
  obtain ⟨q', hq', e1⟩ := wW_mem hx
  rcases hq with ⟨q, hq, e2⟩ | hq
  · exact hne q hq q' hq' (e2.symm.trans e1)
  · omega
set_option maxHeartbeats 4000000 in
/-- a call of the reference -/
theorem L_callM (h : LOk Γ n xs) {index maxL : Nat} {ty : FieldType} {y : MethodName} {ws2 ws2' : List Cond} {rm2 : Room} {bytes : ByteArray} {As : List Value} {r : Int32} (hM : MI Γ.2.2.2.2.2.2.2.2.2.2.2 y ws2 rm2 (wO Γ.2.2.2.2.2.2.2.2.1 Γ.2.2.2.2.2.2.2.2.2.1) LM (.ref (th (wO Γ.2.2.2.2.2.2.2.2.1 Γ.2.2.2.2.2.2.2.2.2.1) 0 0) :: As) (uM M00 0 TM) r (uM M00 0 TM')) (k : Nat) (hn : As.length = k) (hT : GoodIn wsL_law (wsV RL index RX6 y ws2)) (hw : ws2 = Cond.code y bytes maxL (some ty) :: ws2') (hrc : rm2.cells = 0) (hrs : rm2.slots = 0)
    (hd : y.cls = RX6 ∧ y.cls ≠ "java/lang/invoke/MethodHandle" ∧ y.cls ≠ "java/lang/invoke/VarHandle" ∧ (parseMethodDescriptor y.desc).map (fun d => d.parameters.length) = some k) (hRm : rm2.frames + 1 ≤ 8 ∧ 8 + (maxL + 11) + rm2.locals ≤ 292) {st0 : List Value} (hst : st0 = As.reverse ++ .ref (th (wO Γ.2.2.2.2.2.2.2.2.1 Γ.2.2.2.2.2.2.2.2.2.1) 0 0) :: st) (hsum : (st.map fun v => v.category).sum ≤ 8) (hdg : decode cL_law pc = .ok (.invokevirtual index, 3))
    (kk : WL Γ (pc + 3) lv (.int r :: st) M TM') : WL Γ pc lv st0 M TM := by
  obtain ⟨p, e, s, m, below, meth, c, b, ω, ad, Q, l⟩ := Γ
  obtain ⟨hx, hb, hml, hown, hts, hX, hbl, hK, hD, hD', hne, hZ⟩ := h
  intro ls H locs hh hP hP' hS
  obtain ⟨p0, hp0, hp⟩ := wW_get (ω := wO ω ad) (M := uM M00 0 TM) iM_0_0
  refine va_calli (va_runV (As := As) (rest := st) ⟨hx, hb, hml, hown, hts⟩ (hM H.size) (cwV k hts hT hw hrc hrs hd hRm) ⟨PreW_blind, va_recv hK hP' rfl hp, fun U hU hW => ⟨rfl, by rw [hU], by rw [hU]; exact hP', va_K.moved hW.alike hK, hD'.1, va_Nw.warmM hW hZ⟩⟩ rfl hn hh.1 hst (lv_room hsum) hdg ⟨by decide, by decide⟩) hS (fun q _ h => aW_S hD'.2 (fun _ h => h) hS q h) (aW_S hD'.2 (fun _ h => h) hS) (fun r u t H1 locs1 ht1 hvm hw hB hz1 hk1 hS1 => ?_)
  subst hw
  rw [ht1] at hB
  refine kk ls H1 locs1 hh (hP.kept (fun k x hx => ?_)) hB hS1
  have hlt := (hP k x hx).lt
  refine hk1 x.1 hlt (fun hq => ?_)
  obtain ⟨q', hq', e1⟩ := wW_mem hx
  rcases hq with ⟨q, hq, e2⟩ | hq
  · exact hne q' hq' q hq (e1.symm.trans e2)
  · omega
end LAWROWS
