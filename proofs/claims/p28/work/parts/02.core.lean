/-! WORLDS AS MEMORIES. A world is a list of cells (block, place in the block), each with a shape that never changes and contents that are numbers: M block cell index. Refs in fields are fixed by the shape; a ref in an array of refs is kept as the number of the block that it names. -/
abbrev Mm : Type := Nat → Nat → Nat → Int32
abbrev Tm : Type := Nat → Nat → Int32
def wT (T : Tm) (a j : Nat) (v : Int32) : Tm := fun b => if b = a then upd (T a) j v else T b
def uM (M : Mm) (k : Nat) (T : Tm) : Mm := fun q => if q = k then T else M q
def wM (M : Mm) (k a j : Nat) (v : Int32) : Mm := uM M k (wT (M k) a j v)
theorem uM_same (M : Mm) (k : Nat) (T : Tm) : uM M k T k = T := by simp [uM]
theorem uM_ne (M : Mm) (k : Nat) (T : Tm) {q : Nat} (h : q ≠ k) : uM M k T q = M q := by simp [uM, h]
theorem uM_self (M : Mm) (k : Nat) : uM M k (M k) = M := by
  funext q
  by_cases h : q = k
  · subst h; simp [uM]
  · simp [uM, h]
theorem uM_uM (M : Mm) (k : Nat) (T T' : Tm) : uM (uM M k T) k T' = uM M k T' := by
  funext q
  by_cases h : q = k
  · subst h; simp [uM]
  · simp [uM, h]
theorem wM_uM (M : Mm) (k : Nat) (T : Tm) (a j : Nat) (v : Int32) : wM (uM M k T) k a j v = uM M k (wT T a j v) := by
  unfold wM
  rw [uM_same, uM_uM]
theorem wT_same (T : Tm) (a j : Nat) (v : Int32) : wT T a j v a = upd (T a) j v := by simp [wT]
theorem wT_ne (T : Tm) {a b : Nat} (j : Nat) (v : Int32) (h : b ≠ a) : wT T a j v b = T b := by simp [wT, h]
/-- shapes: (0, kind, fields), (1, n, _) an int row, (2, n, _) a char row, (3, n, _) a row of refs to State blocks -/
abbrev Sh : Type := Nat × Nat × List (Option (Nat × Nat))
abbrev Ly : Type := List (Nat × Nat) × (Nat → Nat → Sh)
/-- where a world lies: the numbers and slots of the kinds of objects and of rows, the addresses -/
abbrev Wd : Type := va_G × (Nat → ClassId) × (Nat → Nat → Nat)
abbrev th (ω : Wd) (k a : Nat) : Nat := ω.2.2 k a
def fV (ω : Wd) (f : Nat → Int32) (fs : List (Option (Nat × Nat))) : List Value := (List.range fs.length).map (fun j => match fs.getD j none with
  | some q => Value.ref (th ω q.1 q.2)
  | none => Value.int (f j))
def cE (ω : Wd) (sh : Sh) (f : Nat → Int32) : va_E := match sh.1 with
  | 0 => .inr (sh.2.1, fV ω f sh.2.2)
  | 1 => .inl (ω.2.1 0, sh.2.1, .inl f)
  | 2 => .inl (ω.2.1 1, sh.2.1, .inl f)
  | _ => .inl (ω.2.1 2, sh.2.1, .inr (.inr (.inr (.inr (fun j => some (th ω (f j).toNatClampNeg 0))))))
def wW (ω : Wd) (L : Ly) (M : Mm) : va_W := L.1.map (fun q => (th ω q.1 q.2, cE ω (L.2 q.1 q.2) (M q.1 q.2)))
abbrev tyW (ω : Wd) : List (ClassId × FieldType) := [(ω.2.1 0, .int), (ω.2.1 1, .char), (ω.2.1 2, .object RX4)]
abbrev inL (L : Ly) (k a : Nat) (sh : Sh) : Prop := (k, a) ∈ L.1 ∧ L.2 k a = sh
theorem wW_get {ω : Wd} {L : Ly} {M : Mm} {k a : Nat} {sh : Sh} (h : inL L k a sh) : ∃ p : Nat, L.1[p]? = some (k, a) ∧ (wW ω L M)[p]? = some (th ω k a, cE ω sh (M k a)) := by
  obtain ⟨p, hp⟩ := List.getElem?_of_mem h.1
  refine ⟨p, hp, ?_⟩
  unfold wW
  rw [List.getElem?_map, hp]
  simp [h.2]
theorem nd_inj {α : Type} {l : List α} (hN : l.Nodup) {i j : Nat} {a : α} (hi : l[i]? = some a) (hj : l[j]? = some a) : i = j := by
  obtain ⟨hil, e1⟩ := List.getElem?_eq_some_iff.mp hi
  obtain ⟨hjl, e2⟩ := List.getElem?_eq_some_iff.mp hj
  exact (List.getElem_inj hN).mp (e1.trans e2.symm)
theorem wW_at (ω : Wd) (L : Ly) (M : Mm) (i : Nat) : (wW ω L M)[i]? = (L.1[i]?).map (fun q => (th ω q.1 q.2, cE ω (L.2 q.1 q.2) (M q.1 q.2))) := List.getElem?_map ..
abbrev wF (ω : Wd) (L : Ly) (M : Mm) (q : Nat × Nat) : Nat × va_E := (th ω q.1 q.2, cE ω (L.2 q.1 q.2) (M q.1 q.2))
theorem map_set {α β : Type} {l : List α} {F G : α → β} {p : Nat} {a : α} {b : β} (hN : l.Nodup) (hp : l[p]? = some a) (hb : b = G a) (h : ∀ q, q ≠ a → F q = G q) : (l.map F).set p b = l.map G := by
  apply List.ext_getElem?
  intro i
  by_cases hi : i = p
  · subst hi
    have hl : i < (l.map F).length := by
      rw [List.length_map]
      exact (List.getElem?_eq_some_iff.mp hp).1
    rw [List.getElem?_set_self hl, List.getElem?_map, hp, hb]
    rfl
  · rw [List.getElem?_set_ne (Ne.symm hi), List.getElem?_map, List.getElem?_map]
    cases hq : l[i]? with
    | none => rfl
    | some q =>
      have hne : q ≠ a := fun e => hi (nd_inj hN (hq.trans (congrArg some e)) hp)
      show some (F q) = some (G q)
      rw [h q hne]
theorem wF_off {ω : Wd} {L : Ly} {M M' : Mm} {k a : Nat} (h2 : ∀ k' a', ¬ (k' = k ∧ a' = a) → M' k' a' = M k' a') (q : Nat × Nat) (hq : q ≠ (k, a)) : wF ω L M q = wF ω L M' q := by
  have e : M' q.1 q.2 = M q.1 q.2 := h2 q.1 q.2 (fun e => hq (Prod.ext e.1 e.2))
  exact congrArg (fun f => (th ω q.1 q.2, cE ω (L.2 q.1 q.2) f)) e.symm
theorem wF_on {ω : Wd} {L : Ly} {M' : Mm} {k a : Nat} {sh : Sh} (h : L.2 k a = sh) {f : Nat → Int32} (h1 : M' k a = f) : (th ω k a, cE ω sh f) = wF ω L M' (k, a) := by
  subst h
  subst h1
  rfl
theorem wW_set {ω : Wd} {L : Ly} {M : Mm} {k a p : Nat} {sh : Sh} (hN : L.1.Nodup) (h : inL L k a sh) (hp : L.1[p]? = some (k, a)) (f : Nat → Int32) (M' : Mm) (h1 : M' k a = f) (h2 : ∀ k' a', ¬ (k' = k ∧ a' = a) → M' k' a' = M k' a') :
    (wW ω L M).set p (th ω k a, cE ω sh f) = wW ω L M' := map_set (F := wF ω L M) (G := wF ω L M') hN hp (wF_on h.2 h1) (wF_off h2)
theorem wM_at (M : Mm) (k a j : Nat) (v : Int32) : wM M k a j v k a = upd (M k a) j v := by unfold wM; rw [uM_same, wT_same]
theorem wM_off (M : Mm) (k a j : Nat) (v : Int32) (k' a' : Nat) (h : ¬ (k' = k ∧ a' = a)) : wM M k a j v k' a' = M k' a' := by
  unfold wM
  by_cases hk : k' = k
  · subst hk
    rw [uM_same, wT_ne _ _ _ (fun e => h ⟨rfl, e⟩)]
  · rw [uM_ne _ _ _ hk]
theorem fV_get {ω : Wd} {f : Nat → Int32} {fs : List (Option (Nat × Nat))} {j k a : Nat} (h : fs[j]? = some (some (k, a))) : (fV ω f fs)[j]? = some (.ref (th ω k a)) := by
  have hl := (List.getElem?_eq_some_iff.mp h).1
  unfold fV
  rw [List.getElem?_map, List.getElem?_range hl]
  simp [List.getD_eq_getElem?_getD, h]
theorem fV_geti {ω : Wd} {f : Nat → Int32} {fs : List (Option (Nat × Nat))} {j : Nat} (h : fs[j]? = some none) : (fV ω f fs)[j]? = some (.int (f j)) := by
  have hl := (List.getElem?_eq_some_iff.mp h).1
  unfold fV
  rw [List.getElem?_map, List.getElem?_range hl]
  simp [List.getD_eq_getElem?_getD, h]
theorem fV_len (ω : Wd) (f : Nat → Int32) (fs : List (Option (Nat × Nat))) : (fV ω f fs).length = fs.length := by simp [fV]
theorem fV_set {ω : Wd} {f : Nat → Int32} {fs : List (Option (Nat × Nat))} {j : Nat} (h : fs[j]? = some none) (v : Int32) : (fV ω f fs).set j (.int v) = fV ω (upd f j v) fs := by
  have hl := (List.getElem?_eq_some_iff.mp h).1
  apply List.ext_getElem?
  intro i
  by_cases hi : i = j
  · subst hi
    rw [List.getElem?_set_self (by rw [fV_len]; exact hl), fV_geti h]
    simp [upd]
  · rw [List.getElem?_set_ne (Ne.symm hi)]
    unfold fV
    rw [List.getElem?_map, List.getElem?_map]
    by_cases hil : i < fs.length
    · rw [List.getElem?_range hil]
      simp [upd, hi]
    · rw [List.getElem?_eq_none (by simp; omega)]
      rfl
/-- a frame's own fixed things: program, launch, env, room, start, method, arguments, frames below, method, code, end, own cells, locals, what is to be answered -/
abbrev Cx : Type := Program × Launch × Env × Room × State × MethodId × Array Value × List Frame × Method × Code × (State → Prop) × (Nat → Prop) × Nat × (Int32 × Mm)
def WC (ct : Nat) (Γ : Cx) (H : Heap) (locs : List Loc) (g : JFrame) : Prop := match Γ with
  | (p, l, e, R, s, m, args, below, meth, c, Q, _, _, _) => W p l e R s m args below meth c H locs ct (3 * ct) Q g
abbrev gR (Γ : Cx) : Room := Γ.2.2.2.1
abbrev gs (Γ : Cx) : State := Γ.2.2.2.2.1
abbrev gm (Γ : Cx) : MethodId := Γ.2.2.2.2.2.1
abbrev ga (Γ : Cx) : Array Value := Γ.2.2.2.2.2.2.1
abbrev gc (Γ : Cx) : Code := Γ.2.2.2.2.2.2.2.2.2.1
abbrev gA (Γ : Cx) : Nat → Prop := Γ.2.2.2.2.2.2.2.2.2.2.2.1
abbrev gN (Γ : Cx) : Nat := Γ.2.2.2.2.2.2.2.2.2.2.2.2.1
abbrev gT (Γ : Cx) : Int32 × Mm := Γ.2.2.2.2.2.2.2.2.2.2.2.2.2
/-- room for so many cells -/
def CtOk (Γ : Cx) (ct : Nat) : Prop := ct ≤ (gR Γ).cells ∧ 3 * ct ≤ (gR Γ).slots
theorem c0 (Γ : Cx) : CtOk Γ 0 := ⟨Nat.zero_le _, Nat.zero_le _⟩
theorem CtOk.mono {Γ : Cx} {a b : Nat} (h : CtOk Γ b) (hab : a ≤ b) : CtOk Γ a := ⟨Nat.le_trans hab h.1, Nat.le_trans (Nat.mul_le_mul_left 3 hab) h.2⟩
def Vr (ct : Nat) (Γ : Cx) (ω : Wd) (L : Ly) (pc : Nat) (lv : List (Nat × Value)) (st : List Value) (M : Mm) : Prop :=
  ∀ (ls : Array Slot) (H : Heap) (locs : List Loc), lv_has ls (gN Γ) lv → va_P ω.1 vwCl (wW ω L M) H → va_S (gA Γ) (gs Γ).heap H locs → WC ct Γ H locs (F0 (gm Γ) pc ls st)
/-- the addresses are apart -/
def Apart (ω : Wd) (L : Ly) : Prop := ∀ (i j : Nat) (p q : Nat × Nat), L.1[i]? = some p → L.1[j]? = some q → th ω p.1 p.2 = th ω q.1 q.2 → i = j
/-- the cells that a method of the world may change: the world's, and new ones -/
def aW (ω : Wd) (L : Ly) (sz : Nat) : Nat → Prop := fun q => (∃ i ∈ L.1, q = th ω i.1 i.2) ∨ sz ≤ q
theorem wD {ω : Wd} {L : Ly} {A : Nat → Prop} (h : Apart ω L ∧ ∀ q ∈ L.1, A (th ω q.1 q.2)) (M : Mm) : va_D A (wW ω L M) := by
  refine ⟨fun i j p q hi hj he => ?_, fun k q hk => ?_⟩
  · unfold wW at hi hj
    rw [List.getElem?_map] at hi hj
    cases h1 : L.1[i]? with
    | none => rw [h1] at hi; cases hi
    | some a =>
      cases h2 : L.1[j]? with
      | none => rw [h2] at hj; cases hj
      | some b =>
        rw [h1] at hi
        rw [h2] at hj
        cases hi
        cases hj
        exact h.1 i j a b h1 h2 he
  · unfold wW at hk
    rw [List.getElem?_map] at hk
    cases h1 : L.1[k]? with
    | none => rw [h1] at hk; cases hk
    | some a =>
      rw [h1] at hk
      cases hk
      exact h.2 a (List.mem_of_getElem? h1)
abbrev nstIdx : Nat := 58
/-- State's calls of its nest mate's isWithin -/
abbrev Nst (U : State) : Prop := va_Nw (.methodLinkNest RX4 nstIdx yX5_isWithin "ConkerHeirs") U
/-- what is known throughout a method -/
def CxOk (Γ : Cx) (l : Launch) (rm : Room) (nL : Nat) (ω : Wd) (L : Ly) (cc : ByteArray) (own : String) (ws : List Cond) : Prop :=
  Γ.2.1 = l ∧ gR Γ = rm ∧ gN Γ = nL ∧ Γ.1.tables.exec = Jvm.exec ∧ (gc Γ).code = cc ∧ (gc Γ).maxLocals = gN Γ ∧ (gs Γ).vm.findClass own = some (gm Γ).cls ∧ (∀ w ∈ ws, w.before (ga Γ) (gs Γ) = true) ∧ va_K ω.1 vwCl (tyW ω) (gs Γ) ∧ (Apart ω L ∧ ∀ q ∈ L.1, gA Γ (th ω q.1 q.2)) ∧ (∀ q, (gs Γ).heap.size ≤ q → gA Γ q) ∧ L.1.Nodup ∧ Nst (gs Γ)
/-- guards, calls, and what the machine computes -/
def gd {ρ : Type} (b : Bool) (X : Option ρ) : Option ρ := match b with
  | true => X
  | false => none
def nm {α ρ : Type} (e : α) (F : α → ρ) : ρ := F e
def bnd {σ τ : Type} (G : Option (Int32 × τ)) (F : Int32 → τ → Option (Int32 × σ)) : Option (Int32 × σ) := match G with
  | none => none
  | some (r, t) => F r t
theorem bnd_some {σ τ : Type} {G : Option (Int32 × τ)} {F : Int32 → τ → Option (Int32 × σ)} {q : Int32 × σ} (h : bnd G F = some q) : ∃ r t, G = some (r, t) ∧ F r t = some q := by
  match G, h with
  | none, h => cases h
  | some (r, t), h => exact ⟨r, t, rfl, h⟩
theorem bnd_eq {σ τ : Type} {G : Option (Int32 × τ)} {F : Int32 → τ → Option (Int32 × σ)} {r : Int32} {t : τ} (h : G = some (r, t)) : bnd G F = F r t := by rw [h]; rfl
def ib (i : Int32) (n : Nat) : Bool := !(decide (i < 0)) && decide (i.toNatClampNeg < n)
theorem ib_in {i : Int32} {n : Nat} (h : ib i n = true) : vp_in i n := by
  simp only [ib, Bool.and_eq_true, Bool.not_eq_true', decide_eq_true_eq, decide_eq_false_iff_not] at h
  intro hh
  rcases hh with h1 | h1
  · exact h.1 h1
  · omega
def nb (ty : FieldType) (v : Int32) : Bool := decide (vp_nar ty v = v)
def mn (a b : Int32) : Int32 := if b < a then b else a
def mx (a b : Int32) : Int32 := if a < b then b else a
/-- n places of f, from the first on, into the row a -/
def cT (T : Tm) (a : Nat) (f : Nat → Int32) (n : Nat) : Tm := fun b => if b = a then va_cpy f (T a) 0 0 n else T b
theorem cT_same (T : Tm) (a : Nat) (f : Nat → Int32) (n : Nat) : cT T a f n a = va_cpy f (T a) 0 0 n := by simp [cT]
theorem cT_ne (T : Tm) {a b : Nat} (f : Nat → Int32) (n : Nat) (h : b ≠ a) : cT T a f n b = T b := by simp [cT, h]
/-- a world without cells -/
def L00 : Ly := ([], fun _ _ => (0, 0, []))
def M00 : Mm := fun _ _ _ => 0
/-- the machine from here does what X says -/
def Gq {σ : Type} (ct : Nat) (Γ : Cx) (ω : Wd) (L : Ly) (em : σ → Mm) (pc : Nat) (lv : List (Nat × Value)) (st : List Value) (x : σ) (X : Option (Int32 × σ)) : Prop :=
  ∀ q : Int32 × σ, X = some q → gT Γ = (q.1, em q.2) → CtOk Γ ct → Vr ct Γ ω L pc lv st (em x)
/-- ends -/
def RetI (Γ : Cx) (ω : Wd) (L : Ly) (cc : ByteArray) (ty : FieldType) : Prop := ∀ (ct pc : Nat) (ls : Array Slot) (H : Heap) (locs : List Loc), CtOk Γ ct → decode cc pc = .ok (.ireturn, 1) → narrow ty (.int (gT Γ).1) = .int (gT Γ).1 → va_P ω.1 vwCl (wW ω L (gT Γ).2) H → va_S (gA Γ) (gs Γ).heap H locs → WC ct Γ H locs (F0 (gm Γ) pc ls [.int (gT Γ).1])
def RetV (Γ : Cx) (ω : Wd) (L : Ly) (cc : ByteArray) : Prop := ∀ (ct pc : Nat) (ls : Array Slot) (H : Heap) (locs : List Loc), CtOk Γ ct → decode cc pc = .ok (.return_, 1) → va_P ω.1 vwCl (wW ω L (gT Γ).2) H → va_S (gA Γ) (gs Γ).heap H locs → WC ct Γ H locs (F0 (gm Γ) pc ls [])
def RetF (Γ : Cx) (ω : Wd) (L : Ly) (cc : ByteArray) : Prop := ∀ (ct pc : Nat) (ls : Array Slot) (H : Heap) (locs : List Loc), CtOk Γ ct → decode cc pc = .ok (.freturn, 1) → va_P ω.1 vwCl (wW ω L (gT Γ).2) H → va_S (gA Γ) (gs Γ).heap H locs → WC ct Γ H locs (F0 (gm Γ) pc ls [.float (gT Γ).1.toUInt32])
section ROWS
variable {ct : Nat} {σ : Type} {Γ : Cx} {l : Launch} {rm : Room} {nL : Nat} {ω : Wd} {L : Ly} {cc : ByteArray} {own : String} {ws : List Cond} {em : σ → Mm} {pc : Nat} {lv : List (Nat × Value)} {st : List Value} {x : σ} {X Y : Option (Int32 × σ)}
theorem g_if {c : Prop} {_ : Decidable c} (a : c → Gq ct Γ ω L em pc lv st x X) (b : ¬ c → Gq ct Γ ω L em pc lv st x Y) : Gq ct Γ ω L em pc lv st x (if c then X else Y) := by
  by_cases h : c
  · rw [if_pos h]; exact a h
  · rw [if_neg h]; exact b h
theorem g_gd {c : Bool} (a : c = true → Gq ct Γ ω L em pc lv st x X) : Gq ct Γ ω L em pc lv st x (gd c X) := by
  cases c with
  | true => exact a rfl
  | false => exact fun q hq => by cases hq
theorem g_ni {e : Int32} {F : Int32 → Option (Int32 × σ)} (k : ∀ v, Gq ct Γ ω L em pc lv (.int v :: st) x (F v)) : Gq ct Γ ω L em pc lv (.int e :: st) x (nm e F) := k e
theorem g_nr {e : Int32} {F : Int32 → Option (Int32 × σ)} (k : ∀ v : Int32, Gq ct Γ ω L em pc lv (.ref (th ω v.toNatClampNeg 0) :: st) x (F v)) : Gq ct Γ ω L em pc lv (.ref (th ω e.toNatClampNeg 0) :: st) x (nm e F) := k e
theorem g_nm {F : σ → Option (Int32 × σ)} (k : ∀ t, Gq ct Γ ω L em pc lv st t (F t)) : Gq ct Γ ω L em pc lv st x (nm x F) := k x
theorem g_none : Gq ct Γ ω L em pc lv st x (none : Option (Int32 × σ)) := fun q hq => by cases hq
theorem g_sub (ks : List Nat) {lv' : List (Nat × Value)} (hl : lv_pick lv ks = lv') (k : Gq ct Γ ω L em pc lv' st x X) : Gq ct Γ ω L em pc lv st x X :=
  fun q hq ht hct ls H locs hh hP hS => k q hq ht hct ls H locs (lv_sub hh ks hl) hP hS
theorem g_iconst (h : CxOk Γ l rm nL ω L cc own ws) {n : Int} (v : Int32) (hdg : decode cc pc = .ok (.iconst n, 1))
    (hv : Int32.ofInt n = v) (k : Gq ct Γ ω L em (pc + 1) lv (.int v :: st) x X) : Gq ct Γ ω L em pc lv (st) x X := by
  obtain ⟨p, l', e, R, s, m, args, below, meth, c, Q, A, nL', tgt⟩ := Γ
  obtain ⟨-, -, hnL, hx, hb, hml, hown, hts, hK, hD, hA, hN, hZ⟩ := h
  exact fun q hq ht hct ls H locs hh hP hS => lv_iconst hx hb hdg hv (k q hq ht hct ls H locs hh hP hS)
theorem g_bipush (h : CxOk Γ l rm nL ω L cc own ws) {n : Int} (v : Int32) (hdg : decode cc pc = .ok (.bipush n, 2))
    (hv : (Int8.ofInt n).toInt32 = v) (k : Gq ct Γ ω L em (pc + 2) lv (.int v :: st) x X) : Gq ct Γ ω L em pc lv (st) x X := by
  obtain ⟨p, l', e, R, s, m, args, below, meth, c, Q, A, nL', tgt⟩ := Γ
  obtain ⟨-, -, hnL, hx, hb, hml, hown, hts, hK, hD, hA, hN, hZ⟩ := h
  exact fun q hq ht hct ls H locs hh hP hS => lv_bipush hx hb hdg hv (k q hq ht hct ls H locs hh hP hS)
theorem g_sipush (h : CxOk Γ l rm nL ω L cc own ws) {n : Int} (v : Int32) (hdg : decode cc pc = .ok (.sipush n, 3))
    (hv : (Int16.ofInt n).toInt32 = v) (k : Gq ct Γ ω L em (pc + 3) lv (.int v :: st) x X) : Gq ct Γ ω L em pc lv (st) x X := by
  obtain ⟨p, l', e, R, s, m, args, below, meth, c, Q, A, nL', tgt⟩ := Γ
  obtain ⟨-, -, hnL, hx, hb, hml, hown, hts, hK, hD, hA, hN, hZ⟩ := h
  exact fun q hq ht hct ls H locs hh hP hS => lv_sipush hx hb hdg hv (k q hq ht hct ls H locs hh hP hS)
theorem g_iload_n (h : CxOk Γ l rm nL ω L cc own ws) {n : Fin 4} {i : Nat} {v : Int32} (j : Nat) (hdg : decode cc pc = .ok (.iload_n n, 1))
    (hi : (n : Nat) = i) (hj : lv[j]? = some (i, .int v)) (k : Gq ct Γ ω L em (pc + 1) lv (.int v :: st) x X) : Gq ct Γ ω L em pc lv (st) x X := by
  obtain ⟨p, l', e, R, s, m, args, below, meth, c, Q, A, nL', tgt⟩ := Γ
  obtain ⟨-, -, hnL, hx, hb, hml, hown, hts, hK, hD, hA, hN, hZ⟩ := h
  exact fun q hq ht hct ls H locs hh hP hS => lv_iload_n hx hb hdg hi (lv_at hh j hj) (k q hq ht hct ls H locs hh hP hS)
theorem g_iload (h : CxOk Γ l rm nL ω L cc own ws) {i : Nat} {v : Int32} (j : Nat) (hdg : decode cc pc = .ok (.iload i, 2))
    (hj : lv[j]? = some (i, .int v)) (k : Gq ct Γ ω L em (pc + 2) lv (.int v :: st) x X) : Gq ct Γ ω L em pc lv (st) x X := by
  obtain ⟨p, l', e, R, s, m, args, below, meth, c, Q, A, nL', tgt⟩ := Γ
  obtain ⟨-, -, hnL, hx, hb, hml, hown, hts, hK, hD, hA, hN, hZ⟩ := h
  exact fun q hq ht hct ls H locs hh hP hS => lv_iload hx hb hdg (lv_at hh j hj) (k q hq ht hct ls H locs hh hP hS)
theorem g_aload_n (h : CxOk Γ l rm nL ω L cc own ws) {n : Fin 4} {i : Nat} {v : Nat} (j : Nat) (hdg : decode cc pc = .ok (.aload_n n, 1))
    (hi : (n : Nat) = i) (hj : lv[j]? = some (i, .ref v)) (k : Gq ct Γ ω L em (pc + 1) lv (.ref v :: st) x X) : Gq ct Γ ω L em pc lv (st) x X := by
  obtain ⟨p, l', e, R, s, m, args, below, meth, c, Q, A, nL', tgt⟩ := Γ
  obtain ⟨-, -, hnL, hx, hb, hml, hown, hts, hK, hD, hA, hN, hZ⟩ := h
  exact fun q hq ht hct ls H locs hh hP hS => lv_aload_n hx hb hdg hi (lv_at hh j hj) (k q hq ht hct ls H locs hh hP hS)
theorem g_aload (h : CxOk Γ l rm nL ω L cc own ws) {i : Nat} {v : Nat} (j : Nat) (hdg : decode cc pc = .ok (.aload i, 2))
    (hj : lv[j]? = some (i, .ref v)) (k : Gq ct Γ ω L em (pc + 2) lv (.ref v :: st) x X) : Gq ct Γ ω L em pc lv (st) x X := by
  obtain ⟨p, l', e, R, s, m, args, below, meth, c, Q, A, nL', tgt⟩ := Γ
  obtain ⟨-, -, hnL, hx, hb, hml, hown, hts, hK, hD, hA, hN, hZ⟩ := h
  exact fun q hq ht hct ls H locs hh hP hS => lv_aload hx hb hdg (lv_at hh j hj) (k q hq ht hct ls H locs hh hP hS)
theorem g_iadd (h : CxOk Γ l rm nL ω L cc own ws) {a b : Int32} (hdg : decode cc pc = .ok (.iadd, 1))
     (k : Gq ct Γ ω L em (pc + 1) lv (.int (a + b) :: st) x X) : Gq ct Γ ω L em pc lv (.int b :: .int a :: st) x X := by
  obtain ⟨p, l', e, R, s, m, args, below, meth, c, Q, A, nL', tgt⟩ := Γ
  obtain ⟨-, -, hnL, hx, hb, hml, hown, hts, hK, hD, hA, hN, hZ⟩ := h
  exact fun q hq ht hct ls H locs hh hP hS => lv_iadd hx hb hdg  (k q hq ht hct ls H locs hh hP hS)
theorem g_isub (h : CxOk Γ l rm nL ω L cc own ws) {a b : Int32} (hdg : decode cc pc = .ok (.isub, 1))
     (k : Gq ct Γ ω L em (pc + 1) lv (.int (a - b) :: st) x X) : Gq ct Γ ω L em pc lv (.int b :: .int a :: st) x X := by
  obtain ⟨p, l', e, R, s, m, args, below, meth, c, Q, A, nL', tgt⟩ := Γ
  obtain ⟨-, -, hnL, hx, hb, hml, hown, hts, hK, hD, hA, hN, hZ⟩ := h
  exact fun q hq ht hct ls H locs hh hP hS => lv_isub hx hb hdg  (k q hq ht hct ls H locs hh hP hS)
theorem g_imul (h : CxOk Γ l rm nL ω L cc own ws) {a b : Int32} (hdg : decode cc pc = .ok (.imul, 1))
     (k : Gq ct Γ ω L em (pc + 1) lv (.int (a * b) :: st) x X) : Gq ct Γ ω L em pc lv (.int b :: .int a :: st) x X := by
  obtain ⟨p, l', e, R, s, m, args, below, meth, c, Q, A, nL', tgt⟩ := Γ
  obtain ⟨-, -, hnL, hx, hb, hml, hown, hts, hK, hD, hA, hN, hZ⟩ := h
  exact fun q hq ht hct ls H locs hh hP hS => lv_imul hx hb hdg  (k q hq ht hct ls H locs hh hP hS)
theorem g_iand (h : CxOk Γ l rm nL ω L cc own ws) {a b : Int32} (hdg : decode cc pc = .ok (.iand, 1))
     (k : Gq ct Γ ω L em (pc + 1) lv (.int (a &&& b) :: st) x X) : Gq ct Γ ω L em pc lv (.int b :: .int a :: st) x X := by
  obtain ⟨p, l', e, R, s, m, args, below, meth, c, Q, A, nL', tgt⟩ := Γ
  obtain ⟨-, -, hnL, hx, hb, hml, hown, hts, hK, hD, hA, hN, hZ⟩ := h
  exact fun q hq ht hct ls H locs hh hP hS => lv_iand hx hb hdg  (k q hq ht hct ls H locs hh hP hS)
theorem g_i2c (h : CxOk Γ l rm nL ω L cc own ws) {a v : Int32} (hdg : decode cc pc = .ok (.i2c, 1))
    (hv : (a.toUInt32 % 65536).toInt32 = v) (k : Gq ct Γ ω L em (pc + 1) lv (.int v :: st) x X) : Gq ct Γ ω L em pc lv (.int a :: st) x X := by
  obtain ⟨p, l', e, R, s, m, args, below, meth, c, Q, A, nL', tgt⟩ := Γ
  obtain ⟨-, -, hnL, hx, hb, hml, hown, hts, hK, hD, hA, hN, hZ⟩ := h
  exact fun q hq ht hct ls H locs hh hP hS => lv_i2c hx hb hdg hv (k q hq ht hct ls H locs hh hP hS)
theorem g_i2f (h : CxOk Γ l rm nL ω L cc own ws) {a : Int32} (hdg : decode cc pc = .ok (.i2f, 1))
     (k : Gq ct Γ ω L em (pc + 1) lv (.float (FP.i2f a) :: st) x X) : Gq ct Γ ω L em pc lv (.int a :: st) x X := by
  obtain ⟨p, l', e, R, s, m, args, below, meth, c, Q, A, nL', tgt⟩ := Γ
  obtain ⟨-, -, hnL, hx, hb, hml, hown, hts, hK, hD, hA, hN, hZ⟩ := h
  exact fun q hq ht hct ls H locs hh hP hS => lv_i2f hx hb hdg  (k q hq ht hct ls H locs hh hP hS)
theorem g_fconst0 (h : CxOk Γ l rm nL ω L cc own ws)  (hdg : decode cc pc = .ok (.fconst 0, 1))
     (k : Gq ct Γ ω L em (pc + 1) lv (.float FP.fconst0 :: st) x X) : Gq ct Γ ω L em pc lv (st) x X := by
  obtain ⟨p, l', e, R, s, m, args, below, meth, c, Q, A, nL', tgt⟩ := Γ
  obtain ⟨-, -, hnL, hx, hb, hml, hown, hts, hK, hD, hA, hN, hZ⟩ := h
  exact fun q hq ht hct ls H locs hh hP hS => lv_fconst0 hx hb hdg  (k q hq ht hct ls H locs hh hP hS)
theorem g_dup (h : CxOk Γ l rm nL ω L cc own ws) {v : Value} (hdg : decode cc pc = .ok (.dup, 1))
    (hv : v.category = 1) (k : Gq ct Γ ω L em (pc + 1) lv (v :: v :: st) x X) : Gq ct Γ ω L em pc lv (v :: st) x X := by
  obtain ⟨p, l', e, R, s, m, args, below, meth, c, Q, A, nL', tgt⟩ := Γ
  obtain ⟨-, -, hnL, hx, hb, hml, hown, hts, hK, hD, hA, hN, hZ⟩ := h
  exact fun q hq ht hct ls H locs hh hP hS => lv_dup hx hb hdg hv (k q hq ht hct ls H locs hh hP hS)
theorem g_pop (h : CxOk Γ l rm nL ω L cc own ws) {v : Value} (hdg : decode cc pc = .ok (.pop, 1))
    (hv : v.category = 1) (k : Gq ct Γ ω L em (pc + 1) lv (st) x X) : Gq ct Γ ω L em pc lv (v :: st) x X := by
  obtain ⟨p, l', e, R, s, m, args, below, meth, c, Q, A, nL', tgt⟩ := Γ
  obtain ⟨-, -, hnL, hx, hb, hml, hown, hts, hK, hD, hA, hN, hZ⟩ := h
  exact fun q hq ht hct ls H locs hh hP hS => lv_pop hx hb hdg hv (k q hq ht hct ls H locs hh hP hS)
theorem g_dup2 (h : CxOk Γ l rm nL ω L cc own ws) {v w : Value} (hdg : decode cc pc = .ok (.dup2, 1))
    (hv : v.category = 1) (hw : w.category = 1) (k : Gq ct Γ ω L em (pc + 1) lv (v :: w :: v :: w :: st) x X) : Gq ct Γ ω L em pc lv (v :: w :: st) x X := by
  obtain ⟨p, l', e, R, s, m, args, below, meth, c, Q, A, nL', tgt⟩ := Γ
  obtain ⟨-, -, hnL, hx, hb, hml, hown, hts, hK, hD, hA, hN, hZ⟩ := h
  exact fun q hq ht hct ls H locs hh hP hS => lv_dup2_11 hx hb hdg hv hw (k q hq ht hct ls H locs hh hP hS)
theorem g_goto (h : CxOk Γ l rm nL ω L cc own ws) {off : Int} {tgt : Nat} (hdg : decode cc pc = .ok (.goto off, 3)) (ht : (pc : Int) + off = (tgt : Int)) (k : Gq ct Γ ω L em tgt lv st x X) : Gq ct Γ ω L em pc lv st x X := by
  obtain ⟨p, l', e, R, s, m, args, below, meth, c, Q, A, nL', tgt⟩ := Γ
  obtain ⟨-, -, hnL, hx, hb, hml, hown, hts, hK, hD, hA, hN, hZ⟩ := h
  exact fun q hq ht' hct ls H locs hh hP hS => lv_goto hx hb hdg ht (k q hq ht' hct ls H locs hh hP hS)
theorem g_idiv (h : CxOk Γ l rm nL ω L cc own ws) {a b : Int32} (hdg : decode cc pc = .ok (.idiv, 1)) (k : Gq ct Γ ω L em (pc + 1) lv (.int (a / b) :: st) x X) : Gq ct Γ ω L em pc lv (.int b :: .int a :: st) x (gd (!decide (b = 0)) X) := by
  refine g_gd (fun hb0 => ?_)
  obtain ⟨p, l', e, R, s, m, args, below, meth, c, Q, A, nL', tgt⟩ := Γ
  obtain ⟨-, -, hnL, hx, hb, hml, hown, hts, hK, hD, hA, hN, hZ⟩ := h
  exact fun q hq ht hct ls H locs hh hP hS => lv_idiv hx hb hdg (by simpa using hb0) (k q hq ht hct ls H locs hh hP hS)
theorem g_irem (h : CxOk Γ l rm nL ω L cc own ws) {a b : Int32} (hdg : decode cc pc = .ok (.irem, 1)) (k : Gq ct Γ ω L em (pc + 1) lv (.int (a - a / b * b) :: st) x X) : Gq ct Γ ω L em pc lv (.int b :: .int a :: st) x (gd (!decide (b = 0)) X) := by
  refine g_gd (fun hb0 => ?_)
  obtain ⟨p, l', e, R, s, m, args, below, meth, c, Q, A, nL', tgt⟩ := Γ
  obtain ⟨-, -, hnL, hx, hb, hml, hown, hts, hK, hD, hA, hN, hZ⟩ := h
  exact fun q hq ht hct ls H locs hh hP hS => lv_irem hx hb hdg (by simpa using hb0) (k q hq ht hct ls H locs hh hP hS)
theorem g_fdiv (h : CxOk Γ l rm nL ω L cc own ws) {a b : UInt32} (hdg : decode cc pc = .ok (.fdiv, 1)) (k : Gq ct Γ ω L em (pc + 1) lv (.float (FP.fdiv a b) :: st) x X) : Gq ct Γ ω L em pc lv (.float b :: .float a :: st) x (gd (decide (FP.fdiv a b &&& 0x7fffffff ≤ 0x7f800000)) X) := by
  refine g_gd (fun hb0 => ?_)
  obtain ⟨p, l', e, R, s, m, args, below, meth, c, Q, A, nL', tgt⟩ := Γ
  obtain ⟨-, -, hnL, hx, hb, hml, hown, hts, hK, hD, hA, hN, hZ⟩ := h
  exact fun q hq ht hct ls H locs hh hP hS => lv_fdiv hx hb hdg (by unfold vf_n32; simpa using hb0) (k q hq ht hct ls H locs hh hP hS)
theorem g_istore_n (h : CxOk Γ l rm nL ω L cc own ws) {n : Fin 4} {i : Nat} (hi : (n : Nat) = i) {v : Int32} {lv' : List (Nat × Value)} (hdg : decode cc pc = .ok (.istore_n n, 1)) (hn : i < nL) (ks : List Nat) (hl : lv_pick ((i, Value.int v) :: lv.filter (fun q => !(q.1 == i) && !(q.1 + 1 == i && q.2.category == 2))) ks = lv') (k : Gq ct Γ ω L em (pc + 1) lv' st x X) : Gq ct Γ ω L em pc lv (Value.int v :: st) x X := by
  obtain ⟨p, l', e, R, s, m, args, below, meth, c, Q, A, nL', tgt⟩ := Γ
  obtain ⟨-, -, hnL, hx, hb, hml, hown, hts, hK, hD, hA, hN, hZ⟩ := h
  exact fun q hq ht hct ls H locs hh hP hS => lv_istore_n hx hb hdg hi hh (hnL.symm ▸ hn) rfl (fun ls' hh' => k q hq ht hct ls' H locs (lv_sub hh' ks hl) hP hS)
theorem g_istore (h : CxOk Γ l rm nL ω L cc own ws) {i : Nat} {v : Int32} {lv' : List (Nat × Value)} (hdg : decode cc pc = .ok (.istore i, 2)) (hn : i < nL) (ks : List Nat) (hl : lv_pick ((i, Value.int v) :: lv.filter (fun q => !(q.1 == i) && !(q.1 + 1 == i && q.2.category == 2))) ks = lv') (k : Gq ct Γ ω L em (pc + 2) lv' st x X) : Gq ct Γ ω L em pc lv (Value.int v :: st) x X := by
  obtain ⟨p, l', e, R, s, m, args, below, meth, c, Q, A, nL', tgt⟩ := Γ
  obtain ⟨-, -, hnL, hx, hb, hml, hown, hts, hK, hD, hA, hN, hZ⟩ := h
  exact fun q hq ht hct ls H locs hh hP hS => lv_istore hx hb hdg  hh (hnL.symm ▸ hn) rfl (fun ls' hh' => k q hq ht hct ls' H locs (lv_sub hh' ks hl) hP hS)
theorem g_astore_n (h : CxOk Γ l rm nL ω L cc own ws) {n : Fin 4} {i : Nat} (hi : (n : Nat) = i) {v : Nat} {lv' : List (Nat × Value)} (hdg : decode cc pc = .ok (.astore_n n, 1)) (hn : i < nL) (ks : List Nat) (hl : lv_pick ((i, Value.ref v) :: lv.filter (fun q => !(q.1 == i) && !(q.1 + 1 == i && q.2.category == 2))) ks = lv') (k : Gq ct Γ ω L em (pc + 1) lv' st x X) : Gq ct Γ ω L em pc lv (Value.ref v :: st) x X := by
  obtain ⟨p, l', e, R, s, m, args, below, meth, c, Q, A, nL', tgt⟩ := Γ
  obtain ⟨-, -, hnL, hx, hb, hml, hown, hts, hK, hD, hA, hN, hZ⟩ := h
  exact fun q hq ht hct ls H locs hh hP hS => lv_astore_n hx hb hdg hi hh (hnL.symm ▸ hn) rfl (fun ls' hh' => k q hq ht hct ls' H locs (lv_sub hh' ks hl) hP hS)
theorem g_astore (h : CxOk Γ l rm nL ω L cc own ws) {i : Nat} {v : Nat} {lv' : List (Nat × Value)} (hdg : decode cc pc = .ok (.astore i, 2)) (hn : i < nL) (ks : List Nat) (hl : lv_pick ((i, Value.ref v) :: lv.filter (fun q => !(q.1 == i) && !(q.1 + 1 == i && q.2.category == 2))) ks = lv') (k : Gq ct Γ ω L em (pc + 2) lv' st x X) : Gq ct Γ ω L em pc lv (Value.ref v :: st) x X := by
  obtain ⟨p, l', e, R, s, m, args, below, meth, c, Q, A, nL', tgt⟩ := Γ
  obtain ⟨-, -, hnL, hx, hb, hml, hown, hts, hK, hD, hA, hN, hZ⟩ := h
  exact fun q hq ht hct ls H locs hh hP hS => lv_astore hx hb hdg  hh (hnL.symm ▸ hn) rfl (fun ls' hh' => k q hq ht hct ls' H locs (lv_sub hh' ks hl) hP hS)
theorem g_iinc (h : CxOk Γ l rm nL ω L cc own ws) {i : Nat} {n : Int} {a : Int32} (v : Int32) {lv' : List (Nat × Value)} (hdg : decode cc pc = .ok (.iinc i n, 3)) (j : Nat) (hj : lv[j]? = some (i, .int a)) (hv : a + Int32.ofInt n = v) (hn : i < nL) (ks : List Nat) (hl : lv_pick ((i, Value.int v) :: lv.filter (fun q => !(q.1 == i) && !(q.1 + 1 == i && q.2.category == 2))) ks = lv') (k : Gq ct Γ ω L em (pc + 3) lv' st x X) : Gq ct Γ ω L em pc lv st x X := by
  obtain ⟨p, l', e, R, s, m, args, below, meth, c, Q, A, nL', tgt⟩ := Γ
  obtain ⟨-, -, hnL, hx, hb, hml, hown, hts, hK, hD, hA, hN, hZ⟩ := h
  exact fun q hq ht hct ls H locs hh hP hS => lv_iinc hx hb hdg hh hj hv (hnL.symm ▸ hn) rfl (fun ls' hh' => k q hq ht hct ls' H locs (lv_sub hh' ks hl) hP hS)
theorem g_if_eq (h : CxOk Γ l rm nL ω L cc own ws) {a : Int32} {off : Int} (tgt : Nat) (hdg : decode cc pc = .ok (.ifCond .eq off, 3)) (ht : (pc : Int) + off = (tgt : Int)) (kt : a = 0 → Gq ct Γ ω L em tgt lv st x X) (kf : ¬ a = 0 → Gq ct Γ ω L em (pc + 3) lv st x Y) : Gq ct Γ ω L em pc lv (.int a :: st) x (if a = 0 then X else Y) := by
  obtain ⟨p, l', e, R, s, m, args, below, meth, c, Q, A, nL', tg⟩ := Γ
  obtain ⟨-, -, hnL, hx, hb, hml, hown, hts, hK, hD, hA, hN, hZ⟩ := h
  by_cases hc : a = 0
  · rw [if_pos hc]
    exact fun q hq ht' hct ls H locs hh hP hS => lv_if_eq hx hb hdg ht (fun hn => kt hc q hq ht' hct ls H locs hh hP hS) (fun hn => absurd hc hn)
  · rw [if_neg hc]
    exact fun q hq ht' hct ls H locs hh hP hS => lv_if_eq hx hb hdg ht (fun hn => absurd hn hc) (fun hn => kf hc q hq ht' hct ls H locs hh hP hS)
theorem g_icmp_eq (h : CxOk Γ l rm nL ω L cc own ws) {a b : Int32} {off : Int} (tgt : Nat) (hdg : decode cc pc = .ok (.if_icmp .eq off, 3)) (ht : (pc : Int) + off = (tgt : Int)) (kt : a = b → Gq ct Γ ω L em tgt lv st x X) (kf : ¬ a = b → Gq ct Γ ω L em (pc + 3) lv st x Y) : Gq ct Γ ω L em pc lv (.int b :: .int a :: st) x (if a = b then X else Y) := by
  obtain ⟨p, l', e, R, s, m, args, below, meth, c, Q, A, nL', tg⟩ := Γ
  obtain ⟨-, -, hnL, hx, hb, hml, hown, hts, hK, hD, hA, hN, hZ⟩ := h
  by_cases hc : a = b
  · rw [if_pos hc]
    exact fun q hq ht' hct ls H locs hh hP hS => lv_icmp_eq hx hb hdg ht (fun hn => kt hc q hq ht' hct ls H locs hh hP hS) (fun hn => absurd hc hn)
  · rw [if_neg hc]
    exact fun q hq ht' hct ls H locs hh hP hS => lv_icmp_eq hx hb hdg ht (fun hn => absurd hn hc) (fun hn => kf hc q hq ht' hct ls H locs hh hP hS)
theorem g_if_ne (h : CxOk Γ l rm nL ω L cc own ws) {a : Int32} {off : Int} (tgt : Nat) (hdg : decode cc pc = .ok (.ifCond .ne off, 3)) (ht : (pc : Int) + off = (tgt : Int)) (kf : a = 0 → Gq ct Γ ω L em (pc + 3) lv st x X) (kt : ¬ a = 0 → Gq ct Γ ω L em tgt lv st x Y) : Gq ct Γ ω L em pc lv (.int a :: st) x (if a = 0 then X else Y) := by
  obtain ⟨p, l', e, R, s, m, args, below, meth, c, Q, A, nL', tg⟩ := Γ
  obtain ⟨-, -, hnL, hx, hb, hml, hown, hts, hK, hD, hA, hN, hZ⟩ := h
  by_cases hc : a = 0
  · rw [if_pos hc]
    exact fun q hq ht' hct ls H locs hh hP hS => lv_if_ne hx hb hdg ht (fun hn => absurd hc hn) (fun hn => kf hc q hq ht' hct ls H locs hh hP hS)
  · rw [if_neg hc]
    exact fun q hq ht' hct ls H locs hh hP hS => lv_if_ne hx hb hdg ht (fun hn => kt hc q hq ht' hct ls H locs hh hP hS) (fun hn => absurd hn hc)
theorem g_icmp_ne (h : CxOk Γ l rm nL ω L cc own ws) {a b : Int32} {off : Int} (tgt : Nat) (hdg : decode cc pc = .ok (.if_icmp .ne off, 3)) (ht : (pc : Int) + off = (tgt : Int)) (kf : a = b → Gq ct Γ ω L em (pc + 3) lv st x X) (kt : ¬ a = b → Gq ct Γ ω L em tgt lv st x Y) : Gq ct Γ ω L em pc lv (.int b :: .int a :: st) x (if a = b then X else Y) := by
  obtain ⟨p, l', e, R, s, m, args, below, meth, c, Q, A, nL', tg⟩ := Γ
  obtain ⟨-, -, hnL, hx, hb, hml, hown, hts, hK, hD, hA, hN, hZ⟩ := h
  by_cases hc : a = b
  · rw [if_pos hc]
    exact fun q hq ht' hct ls H locs hh hP hS => lv_icmp_ne hx hb hdg ht (fun hn => absurd hc hn) (fun hn => kf hc q hq ht' hct ls H locs hh hP hS)
  · rw [if_neg hc]
    exact fun q hq ht' hct ls H locs hh hP hS => lv_icmp_ne hx hb hdg ht (fun hn => kt hc q hq ht' hct ls H locs hh hP hS) (fun hn => absurd hn hc)
theorem g_if_lt (h : CxOk Γ l rm nL ω L cc own ws) {a : Int32} {off : Int} (tgt : Nat) (hdg : decode cc pc = .ok (.ifCond .lt off, 3)) (ht : (pc : Int) + off = (tgt : Int)) (kt : a < 0 → Gq ct Γ ω L em tgt lv st x X) (kf : ¬ a < 0 → Gq ct Γ ω L em (pc + 3) lv st x Y) : Gq ct Γ ω L em pc lv (.int a :: st) x (if a < 0 then X else Y) := by
  obtain ⟨p, l', e, R, s, m, args, below, meth, c, Q, A, nL', tg⟩ := Γ
  obtain ⟨-, -, hnL, hx, hb, hml, hown, hts, hK, hD, hA, hN, hZ⟩ := h
  by_cases hc : a < 0
  · rw [if_pos hc]
    exact fun q hq ht' hct ls H locs hh hP hS => lv_if_lt hx hb hdg ht (fun hn => kt hc q hq ht' hct ls H locs hh hP hS) (fun hn => absurd hc hn)
  · rw [if_neg hc]
    exact fun q hq ht' hct ls H locs hh hP hS => lv_if_lt hx hb hdg ht (fun hn => absurd hn hc) (fun hn => kf hc q hq ht' hct ls H locs hh hP hS)
theorem g_icmp_lt (h : CxOk Γ l rm nL ω L cc own ws) {a b : Int32} {off : Int} (tgt : Nat) (hdg : decode cc pc = .ok (.if_icmp .lt off, 3)) (ht : (pc : Int) + off = (tgt : Int)) (kt : a < b → Gq ct Γ ω L em tgt lv st x X) (kf : ¬ a < b → Gq ct Γ ω L em (pc + 3) lv st x Y) : Gq ct Γ ω L em pc lv (.int b :: .int a :: st) x (if a < b then X else Y) := by
  obtain ⟨p, l', e, R, s, m, args, below, meth, c, Q, A, nL', tg⟩ := Γ
  obtain ⟨-, -, hnL, hx, hb, hml, hown, hts, hK, hD, hA, hN, hZ⟩ := h
  by_cases hc : a < b
  · rw [if_pos hc]
    exact fun q hq ht' hct ls H locs hh hP hS => lv_icmp_lt hx hb hdg ht (fun hn => kt hc q hq ht' hct ls H locs hh hP hS) (fun hn => absurd hc hn)
  · rw [if_neg hc]
    exact fun q hq ht' hct ls H locs hh hP hS => lv_icmp_lt hx hb hdg ht (fun hn => absurd hn hc) (fun hn => kf hc q hq ht' hct ls H locs hh hP hS)
theorem g_if_ge (h : CxOk Γ l rm nL ω L cc own ws) {a : Int32} {off : Int} (tgt : Nat) (hdg : decode cc pc = .ok (.ifCond .ge off, 3)) (ht : (pc : Int) + off = (tgt : Int)) (kt : 0 ≤ a → Gq ct Γ ω L em tgt lv st x X) (kf : ¬ 0 ≤ a → Gq ct Γ ω L em (pc + 3) lv st x Y) : Gq ct Γ ω L em pc lv (.int a :: st) x (if 0 ≤ a then X else Y) := by
  obtain ⟨p, l', e, R, s, m, args, below, meth, c, Q, A, nL', tg⟩ := Γ
  obtain ⟨-, -, hnL, hx, hb, hml, hown, hts, hK, hD, hA, hN, hZ⟩ := h
  by_cases hc : 0 ≤ a
  · rw [if_pos hc]
    exact fun q hq ht' hct ls H locs hh hP hS => lv_if_ge hx hb hdg ht (fun hn => kt hc q hq ht' hct ls H locs hh hP hS) (fun hn => absurd hc hn)
  · rw [if_neg hc]
    exact fun q hq ht' hct ls H locs hh hP hS => lv_if_ge hx hb hdg ht (fun hn => absurd hn hc) (fun hn => kf hc q hq ht' hct ls H locs hh hP hS)
theorem g_icmp_ge (h : CxOk Γ l rm nL ω L cc own ws) {a b : Int32} {off : Int} (tgt : Nat) (hdg : decode cc pc = .ok (.if_icmp .ge off, 3)) (ht : (pc : Int) + off = (tgt : Int)) (kt : b ≤ a → Gq ct Γ ω L em tgt lv st x X) (kf : ¬ b ≤ a → Gq ct Γ ω L em (pc + 3) lv st x Y) : Gq ct Γ ω L em pc lv (.int b :: .int a :: st) x (if b ≤ a then X else Y) := by
  obtain ⟨p, l', e, R, s, m, args, below, meth, c, Q, A, nL', tg⟩ := Γ
  obtain ⟨-, -, hnL, hx, hb, hml, hown, hts, hK, hD, hA, hN, hZ⟩ := h
  by_cases hc : b ≤ a
  · rw [if_pos hc]
    exact fun q hq ht' hct ls H locs hh hP hS => lv_icmp_ge hx hb hdg ht (fun hn => kt hc q hq ht' hct ls H locs hh hP hS) (fun hn => absurd hc hn)
  · rw [if_neg hc]
    exact fun q hq ht' hct ls H locs hh hP hS => lv_icmp_ge hx hb hdg ht (fun hn => absurd hn hc) (fun hn => kf hc q hq ht' hct ls H locs hh hP hS)
theorem g_if_gt (h : CxOk Γ l rm nL ω L cc own ws) {a : Int32} {off : Int} (tgt : Nat) (hdg : decode cc pc = .ok (.ifCond .gt off, 3)) (ht : (pc : Int) + off = (tgt : Int)) (kt : 0 < a → Gq ct Γ ω L em tgt lv st x X) (kf : ¬ 0 < a → Gq ct Γ ω L em (pc + 3) lv st x Y) : Gq ct Γ ω L em pc lv (.int a :: st) x (if 0 < a then X else Y) := by
  obtain ⟨p, l', e, R, s, m, args, below, meth, c, Q, A, nL', tg⟩ := Γ
  obtain ⟨-, -, hnL, hx, hb, hml, hown, hts, hK, hD, hA, hN, hZ⟩ := h
  by_cases hc : 0 < a
  · rw [if_pos hc]
    exact fun q hq ht' hct ls H locs hh hP hS => lv_if_gt hx hb hdg ht (fun hn => kt hc q hq ht' hct ls H locs hh hP hS) (fun hn => absurd hc hn)
  · rw [if_neg hc]
    exact fun q hq ht' hct ls H locs hh hP hS => lv_if_gt hx hb hdg ht (fun hn => absurd hn hc) (fun hn => kf hc q hq ht' hct ls H locs hh hP hS)
theorem g_icmp_gt (h : CxOk Γ l rm nL ω L cc own ws) {a b : Int32} {off : Int} (tgt : Nat) (hdg : decode cc pc = .ok (.if_icmp .gt off, 3)) (ht : (pc : Int) + off = (tgt : Int)) (kt : b < a → Gq ct Γ ω L em tgt lv st x X) (kf : ¬ b < a → Gq ct Γ ω L em (pc + 3) lv st x Y) : Gq ct Γ ω L em pc lv (.int b :: .int a :: st) x (if b < a then X else Y) := by
  obtain ⟨p, l', e, R, s, m, args, below, meth, c, Q, A, nL', tg⟩ := Γ
  obtain ⟨-, -, hnL, hx, hb, hml, hown, hts, hK, hD, hA, hN, hZ⟩ := h
  by_cases hc : b < a
  · rw [if_pos hc]
    exact fun q hq ht' hct ls H locs hh hP hS => lv_icmp_gt hx hb hdg ht (fun hn => kt hc q hq ht' hct ls H locs hh hP hS) (fun hn => absurd hc hn)
  · rw [if_neg hc]
    exact fun q hq ht' hct ls H locs hh hP hS => lv_icmp_gt hx hb hdg ht (fun hn => absurd hn hc) (fun hn => kf hc q hq ht' hct ls H locs hh hP hS)
theorem g_if_le (h : CxOk Γ l rm nL ω L cc own ws) {a : Int32} {off : Int} (tgt : Nat) (hdg : decode cc pc = .ok (.ifCond .le off, 3)) (ht : (pc : Int) + off = (tgt : Int)) (kt : a ≤ 0 → Gq ct Γ ω L em tgt lv st x X) (kf : ¬ a ≤ 0 → Gq ct Γ ω L em (pc + 3) lv st x Y) : Gq ct Γ ω L em pc lv (.int a :: st) x (if a ≤ 0 then X else Y) := by
  obtain ⟨p, l', e, R, s, m, args, below, meth, c, Q, A, nL', tg⟩ := Γ
  obtain ⟨-, -, hnL, hx, hb, hml, hown, hts, hK, hD, hA, hN, hZ⟩ := h
  by_cases hc : a ≤ 0
  · rw [if_pos hc]
    exact fun q hq ht' hct ls H locs hh hP hS => lv_if_le hx hb hdg ht (fun hn => kt hc q hq ht' hct ls H locs hh hP hS) (fun hn => absurd hc hn)
  · rw [if_neg hc]
    exact fun q hq ht' hct ls H locs hh hP hS => lv_if_le hx hb hdg ht (fun hn => absurd hn hc) (fun hn => kf hc q hq ht' hct ls H locs hh hP hS)
theorem g_icmp_le (h : CxOk Γ l rm nL ω L cc own ws) {a b : Int32} {off : Int} (tgt : Nat) (hdg : decode cc pc = .ok (.if_icmp .le off, 3)) (ht : (pc : Int) + off = (tgt : Int)) (kt : a ≤ b → Gq ct Γ ω L em tgt lv st x X) (kf : ¬ a ≤ b → Gq ct Γ ω L em (pc + 3) lv st x Y) : Gq ct Γ ω L em pc lv (.int b :: .int a :: st) x (if a ≤ b then X else Y) := by
  obtain ⟨p, l', e, R, s, m, args, below, meth, c, Q, A, nL', tg⟩ := Γ
  obtain ⟨-, -, hnL, hx, hb, hml, hown, hts, hK, hD, hA, hN, hZ⟩ := h
  by_cases hc : a ≤ b
  · rw [if_pos hc]
    exact fun q hq ht' hct ls H locs hh hP hS => lv_icmp_le hx hb hdg ht (fun hn => kt hc q hq ht' hct ls H locs hh hP hS) (fun hn => absurd hc hn)
  · rw [if_neg hc]
    exact fun q hq ht' hct ls H locs hh hP hS => lv_icmp_le hx hb hdg ht (fun hn => absurd hn hc) (fun hn => kf hc q hq ht' hct ls H locs hh hP hS)
theorem g_getR (h : CxOk Γ l rm nL ω L cc own ws) {k a ci N index j k' a' : Nat} {fs : List (Option (Nat × Nat))} {C : String} {T : u_T} (hc : inL L k a (0, ci, fs)) (hcl : vwCl[ci]? = some (C, T, N)) (hin : ∀ w ∈ u_ws C T N, w ∈ ws) (hj : j < N) (hf : fs[j]? = some (some (k', a'))) (hlink : Cond.fieldLink own index (T j).1 (T j).2.1 (T j).2.2.1 ∈ ws) (hdg : decode cc pc = .ok (.getfield index, 3))
    (kk : Gq ct Γ ω L em (pc + 3) lv (.ref (th ω k' a') :: st) x X) : Gq ct Γ ω L em pc lv (.ref (th ω k a) :: st) x X := by
  obtain ⟨p, l', e, R, s, m, args, below, meth, c, Q, A, nL', tgt⟩ := Γ
  obtain ⟨-, -, -, hx, hb, hml, hown, hts, hK, hD, hA, hN, hZ⟩ := h
  intro q hq ht hct ls H locs hh hP hS
  obtain ⟨p0, -, hp⟩ := wW_get (ω := ω) (M := em x) hc
  exact va_get hx hb hts hin hown hK hP p0 hp hcl j hj (hts _ hlink) (fun _ h9 => h9) (fV_get hf) hdg (kk q hq ht hct ls H locs hh hP hS)
theorem g_getI (h : CxOk Γ l rm nL ω L cc own ws) {k a ci N index j : Nat} {fs : List (Option (Nat × Nat))} {C : String} {T : u_T} {v : Int32} (hv : em x k a j = v) (hc : inL L k a (0, ci, fs)) (hcl : vwCl[ci]? = some (C, T, N)) (hin : ∀ w ∈ u_ws C T N, w ∈ ws) (hj : j < N) (hf : fs[j]? = some none) (hlink : Cond.fieldLink own index (T j).1 (T j).2.1 (T j).2.2.1 ∈ ws) (hdg : decode cc pc = .ok (.getfield index, 3))
    (kk : Gq ct Γ ω L em (pc + 3) lv (.int v :: st) x X) : Gq ct Γ ω L em pc lv (.ref (th ω k a) :: st) x X := by
  obtain ⟨p, l', e, R, s, m, args, below, meth, c, Q, A, nL', tgt⟩ := Γ
  obtain ⟨-, -, -, hx, hb, hml, hown, hts, hK, hD, hA, hN, hZ⟩ := h
  subst hv
  intro q hq ht hct ls H locs hh hP hS
  obtain ⟨p0, -, hp⟩ := wW_get (ω := ω) (M := em x) hc
  exact va_get hx hb hts hin hown hK hP p0 hp hcl j hj (hts _ hlink) (fun _ h9 => h9) (fV_geti hf) hdg (kk q hq ht hct ls H locs hh hP hS)
theorem g_putI (h : CxOk Γ l rm nL ω L cc own ws) {k a ci N index j : Nat} {fs : List (Option (Nat × Nat))} {C : String} {T : u_T} {ty0 : Nat → FieldType} {ty : FieldType} {v : Int32} {x' : σ} (hv : em x' = wM (em x) k a j v) (hc : inL L k a (0, ci, fs)) (hcl : vwCl[ci]? = some (C, T, N)) (hin : ∀ w ∈ u_ws C T N, w ∈ ws) (hty : ∀ k, k < N → parseFieldDescriptor (T k).2.2.1 = some (ty0 k)) (hnm : ∀ a, a < N → ∀ b, b < N → a ≠ b → (T a).2.1 ≠ (T b).2.1) (hj : j < N) (hf : fs[j]? = some none) (hlink : Cond.fieldLink own index (T j).1 (T j).2.1 (T j).2.2.1 ∈ ws) (hfin : (T j).2.2.2 = false) (hd : parseFieldDescriptor (T j).2.2.1 = some ty) (hn : narrow ty (.int v) = .int v) (hfit : fits ty (.int v) = true) (hdg : decode cc pc = .ok (.putfield index, 3))
    (kk : Gq ct Γ ω L em (pc + 3) lv st x' X) : Gq ct Γ ω L em pc lv (.int v :: .ref (th ω k a) :: st) x X := by
  obtain ⟨p, l', e, R, s, m, args, below, meth, c, Q, A, nL', tgt⟩ := Γ
  obtain ⟨-, -, -, hx, hb, hml, hown, hts, hK, hD, hA, hN, hZ⟩ := h
  intro q hq ht hct ls H locs hh hP hS
  obtain ⟨p0, hp0, hp⟩ := wW_get (ω := ω) (M := em x) hc
  have hl : j < (fV ω (em x k a) fs).length := by rw [fV_len]; exact (List.getElem?_eq_some_iff.mp hf).1
  refine va_put hx hb hts hin ty0 hty hnm hown hK hP (wD hD (em x)) hS p0 hp hcl j hj (hts _ hlink) (fun _ h9 => h9) hfin hd hn hfit hl hdg (fun H1 locs1 hP1 _ hS1 => ?_)
  refine kk q hq ht hct ls H1 locs1 hh ?_ hS1
  have e1 := wW_set (ω := ω) (M := em x) hN hc hp0 (upd (em x k a) j v) (em x') (by rw [hv, wM_at]) (fun k' a' hne => by rw [hv, wM_off _ _ _ _ _ _ _ hne])
  rw [← e1]
  rw [fV_set hf] at hP1
  exact hP1
theorem g_iald (h : CxOk Γ l rm nL ω L cc own ws) {k a n : Nat} {fs : List (Option (Nat × Nat))} {i v : Int32} (hv : em x k a i.toNatClampNeg = v) (hc : inL L k a (1, n, fs)) (hdg : decode cc pc = .ok (.iaload, 1))
    (kk : Gq ct Γ ω L em (pc + 1) lv (.int v :: st) x X) : Gq ct Γ ω L em pc lv (.int i :: .ref (th ω k a) :: st) x (gd (ib i n) X) := by
  refine g_gd (fun hi => ?_)
  obtain ⟨p, l', e, R, s, m, args, below, meth, c, Q, A, nL', tgt⟩ := Γ
  obtain ⟨-, -, -, hx, hb, hml, hown, hts, hK, hD, hA, hN, hZ⟩ := h
  subst hv
  intro q hq ht hct ls H locs hh hP hS
  obtain ⟨p0, hp0, hp⟩ := wW_get (ω := ω) (M := em x) hc
  exact va_iald hx hb hK hP p0 0 hp rfl (ib_in hi) hdg (kk q hq ht hct ls H locs hh hP hS)
theorem g_cald (h : CxOk Γ l rm nL ω L cc own ws) {k a n : Nat} {fs : List (Option (Nat × Nat))} {i v : Int32} (hv : em x k a i.toNatClampNeg = v) (hc : inL L k a (2, n, fs)) (hdg : decode cc pc = .ok (.caload, 1))
    (kk : Gq ct Γ ω L em (pc + 1) lv (.int v :: st) x X) : Gq ct Γ ω L em pc lv (.int i :: .ref (th ω k a) :: st) x (gd (ib i n) X) := by
  refine g_gd (fun hi => ?_)
  obtain ⟨p, l', e, R, s, m, args, below, meth, c, Q, A, nL', tgt⟩ := Γ
  obtain ⟨-, -, -, hx, hb, hml, hown, hts, hK, hD, hA, hN, hZ⟩ := h
  subst hv
  intro q hq ht hct ls H locs hh hP hS
  obtain ⟨p0, hp0, hp⟩ := wW_get (ω := ω) (M := em x) hc
  exact va_cald hx hb hK hP p0 1 hp rfl (ib_in hi) hdg (kk q hq ht hct ls H locs hh hP hS)
theorem g_aald (h : CxOk Γ l rm nL ω L cc own ws) {k a n : Nat} {fs : List (Option (Nat × Nat))} {i v : Int32} (hv : em x k a i.toNatClampNeg = v) (hc : inL L k a (3, n, fs)) (hdg : decode cc pc = .ok (.aaload, 1))
    (kk : Gq ct Γ ω L em (pc + 1) lv (.ref (th ω v.toNatClampNeg 0) :: st) x X) : Gq ct Γ ω L em pc lv (.int i :: .ref (th ω k a) :: st) x (gd (ib i n) X) := by
  refine g_gd (fun hi => ?_)
  obtain ⟨p, l', e, R, s, m, args, below, meth, c, Q, A, nL', tgt⟩ := Γ
  obtain ⟨-, -, -, hx, hb, hml, hown, hts, hK, hD, hA, hN, hZ⟩ := h
  subst hv
  intro q hq ht hct ls H locs hh hP hS
  obtain ⟨p0, hp0, hp⟩ := wW_get (ω := ω) (M := em x) hc
  exact va_aldq (C := RX4) (f := fun j => some (th ω (em x k a j).toNatClampNeg 0)) hx hb hK hP p0 2 hp rfl (ib_in hi) hdg (kk q hq ht hct ls H locs hh hP hS)
theorem g_iast (h : CxOk Γ l rm nL ω L cc own ws) {k a n : Nat} {fs : List (Option (Nat × Nat))} {i v : Int32} {x' : σ} (hv : em x' = wM (em x) k a i.toNatClampNeg v) (hc : inL L k a (1, n, fs)) (hdg : decode cc pc = .ok (.iastore, 1))
    (kk : Gq ct Γ ω L em (pc + 1) lv st x' X) : Gq ct Γ ω L em pc lv (.int v :: .int i :: .ref (th ω k a) :: st) x (gd (ib i n) X) := by
  refine g_gd (fun hi => ?_)
  obtain ⟨p, l', e, R, s, m, args, below, meth, c, Q, A, nL', tgt⟩ := Γ
  obtain ⟨-, -, -, hx, hb, hml, hown, hts, hK, hD, hA, hN, hZ⟩ := h
  intro q hq ht hct ls H locs hh hP hS
  obtain ⟨p0, hp0, hp⟩ := wW_get (ω := ω) (M := em x) hc
  refine va_iast hx hb hK hP (wD hD (em x)) hS p0 0 hp rfl (ib_in hi) hdg (fun H1 locs1 hP1 _ hS1 => ?_)
  refine kk q hq ht hct ls H1 locs1 hh ?_ hS1
  have e1 := wW_set (ω := ω) (M := em x) hN hc hp0 (upd (em x k a) i.toNatClampNeg v) (em x') (by rw [hv, wM_at]) (fun k' a' hne => by rw [hv, wM_off _ _ _ _ _ _ _ hne])
  rw [← e1]
  exact hP1
theorem g_cast (h : CxOk Γ l rm nL ω L cc own ws) {k a n : Nat} {fs : List (Option (Nat × Nat))} {i v : Int32} {x' : σ} (hv : em x' = wM (em x) k a i.toNatClampNeg (vp_nar .char v)) (hc : inL L k a (2, n, fs)) (hdg : decode cc pc = .ok (.castore, 1))
    (kk : Gq ct Γ ω L em (pc + 1) lv st x' X) : Gq ct Γ ω L em pc lv (.int v :: .int i :: .ref (th ω k a) :: st) x (gd (ib i n) X) := by
  refine g_gd (fun hi => ?_)
  obtain ⟨p, l', e, R, s, m, args, below, meth, c, Q, A, nL', tgt⟩ := Γ
  obtain ⟨-, -, -, hx, hb, hml, hown, hts, hK, hD, hA, hN, hZ⟩ := h
  intro q hq ht hct ls H locs hh hP hS
  obtain ⟨p0, hp0, hp⟩ := wW_get (ω := ω) (M := em x) hc
  refine va_cast hx hb hK hP (wD hD (em x)) hS p0 1 hp rfl (ib_in hi) hdg (fun H1 locs1 hP1 _ hS1 => ?_)
  refine kk q hq ht hct ls H1 locs1 hh ?_ hS1
  have e1 := wW_set (ω := ω) (M := em x) hN hc hp0 (upd (em x k a) i.toNatClampNeg (vp_nar .char v)) (em x') (by rw [hv, wM_at]) (fun k' a' hne => by rw [hv, wM_off _ _ _ _ _ _ _ hne])
  rw [← e1]
  exact hP1
theorem g_aast (h : CxOk Γ l rm nL ω L cc own ws) {k a n : Nat} {fs fs' : List (Option (Nat × Nat))} {i v : Int32} {x' : σ} (hv : em x' = wM (em x) k a i.toNatClampNeg v) (hc : inL L k a (3, n, fs)) (hs : inL L v.toNatClampNeg 0 (0, 4, fs')) (hdg : decode cc pc = .ok (.aastore, 1))
    (kk : Gq ct Γ ω L em (pc + 1) lv st x' X) : Gq ct Γ ω L em pc lv (.ref (th ω v.toNatClampNeg 0) :: .int i :: .ref (th ω k a) :: st) x (gd (ib i n) X) := by
  refine g_gd (fun hi => ?_)
  obtain ⟨p, l', e, R, s, m, args, below, meth, c, Q, A, nL', tgt⟩ := Γ
  obtain ⟨-, -, -, hx, hb, hml, hown, hts, hK, hD, hA, hN, hZ⟩ := h
  intro q hq ht hct ls H locs hh hP hS
  obtain ⟨p0, hp0, hp⟩ := wW_get (ω := ω) (M := em x) hc
  obtain ⟨p1, hp1, hp2⟩ := wW_get (ω := ω) (M := em x) hs
  refine va_astq (r := (RX4, TX4, 13)) (f := fun j => some (th ω (em x k a j).toNatClampNeg 0)) hx hb hK hP (wD hD (em x)) hS p0 2 p1 4 hp rfl hp2 rfl (ib_in hi) hdg (fun H1 locs1 hP1 _ hS1 => ?_)
  refine kk q hq ht hct ls H1 locs1 hh ?_ hS1
  have e1 := wW_set (ω := ω) (M := em x) hN hc hp0 (upd (em x k a) i.toNatClampNeg v) (em x') (by rw [hv, wM_at]) (fun k' a' hne => by rw [hv, wM_off _ _ _ _ _ _ _ hne])
  rw [← e1]
  have e2 : va_up (fun j => some (th ω (em x k a j).toNatClampNeg 0)) i.toNatClampNeg (some (th ω v.toNatClampNeg 0)) = (fun j => some (th ω (upd (em x k a) i.toNatClampNeg v j).toNatClampNeg 0)) := by
    funext j
    by_cases hj : j = i.toNatClampNeg
    · simp [va_up, upd, hj]
    · simp [va_up, upd, hj]
  rw [e2] at hP1
  exact hP1
theorem g_min (h : CxOk Γ l rm nL ω L cc own ws) {index : Nat} {a b : Int32} (hlink : Cond.methodLink own index Lib.Math.min.name ∈ ws) (hstat : Cond.static Lib.Math.min.name ∈ ws) (hini : Cond.initialized "java/lang/Math" ∈ ws) (hcode : Cond.code Lib.Math.min.name Lib.Math.min.code 2 (some .int) ∈ ws) (hfr : 1 ≤ rm.frames) (hlo : (st.map fun v => v.category).sum + 13 ≤ rm.locals) (hdg : decode cc pc = .ok (.invokestatic index, 3))
    (kk : Gq ct Γ ω L em (pc + 3) lv (.int (mn a b) :: st) x X) : Gq ct Γ ω L em pc lv (.int b :: .int a :: st) x X := by
  obtain ⟨p, l', e, R, s, m, args, below, meth, c, Q, A, nL', tgt⟩ := Γ
  obtain ⟨-, hR, -, hx, hb, hml, hown, hts, hK, hD, hA, hN, hZ⟩ := h
  subst hR
  intro q hq ht hct ls H locs hh hP hS
  exact va_mmin hx hb (hml.trans hh.1.symm) hown (hts _ hlink) (hts _ hstat) (hts _ hini) (hts _ hcode) hfr hlo hct.1 hct.2 hdg (kk q hq ht hct ls H locs hh hP hS)
theorem g_max (h : CxOk Γ l rm nL ω L cc own ws) {index : Nat} {a b : Int32} (hlink : Cond.methodLink own index Lib.Math.max.name ∈ ws) (hstat : Cond.static Lib.Math.max.name ∈ ws) (hini : Cond.initialized "java/lang/Math" ∈ ws) (hcode : Cond.code Lib.Math.max.name Lib.Math.max.code 2 (some .int) ∈ ws) (hfr : 1 ≤ rm.frames) (hlo : (st.map fun v => v.category).sum + 13 ≤ rm.locals) (hdg : decode cc pc = .ok (.invokestatic index, 3))
    (kk : Gq ct Γ ω L em (pc + 3) lv (.int (mx a b) :: st) x X) : Gq ct Γ ω L em pc lv (.int b :: .int a :: st) x X := by
  obtain ⟨p, l', e, R, s, m, args, below, meth, c, Q, A, nL', tgt⟩ := Γ
  obtain ⟨-, hR, -, hx, hb, hml, hown, hts, hK, hD, hA, hN, hZ⟩ := h
  subst hR
  intro q hq ht hct ls H locs hh hP hS
  exact va_mmax hx hb (hml.trans hh.1.symm) hown (hts _ hlink) (hts _ hstat) (hts _ hini) (hts _ hcode) hfr hlo hct.1 hct.2 hdg (kk q hq ht hct ls H locs hh hP hS)
/-- System.arraycopy between int rows of the world, from 0 to 0 -/
theorem g_copy (h : CxOk Γ l rm nL ω L cc own ws) {index k a k1 a1 n n1 : Nat} {fs fs1 : List (Option (Nat × Nat))} {w : Int32} {x' : σ} (hv : em x' = uM (em x) k1 (cT (em x k1) a1 (em x k a) w.toNatClampNeg)) (hc : inL L k a (1, n, fs)) (hc1 : inL L k1 a1 (1, n1, fs1)) (hw : ¬ w < 0) (h1 : w.toNatClampNeg ≤ n) (h2 : w.toNatClampNeg ≤ n1)
    (hlink : Cond.methodLink own index arraycopyName ∈ ws) (hnat : Cond.native arraycopyName ∈ ws) (hstat : Cond.static arraycopyName ∈ ws) (hini : Cond.initialized "java/lang/System" ∈ ws) (hfr : 1 ≤ rm.frames) (hlo : (st.map fun v => v.category).sum + (nativeFrameWords "java/lang/System" "arraycopy" 5 + 11) ≤ rm.locals) (hdg : decode cc pc = .ok (.invokestatic index, 3))
    (kk : Gq ct Γ ω L em (pc + 3) lv st x' X) : Gq ct Γ ω L em pc lv (.int w :: .int 0 :: .ref (th ω k1 a1) :: .int 0 :: .ref (th ω k a) :: st) x X := by
  obtain ⟨p, l', e, R, s, m, args, below, meth, c, Q, A, nL', tgt⟩ := Γ
  obtain ⟨-, hR, -, hx, hb, hml, hown, hts, hK, hD, hA, hN, hZ⟩ := h
  subst hR
  intro q hq ht hct ls H locs hh hP hS
  obtain ⟨p0, hp0, hp⟩ := wW_get (ω := ω) (M := em x) hc
  obtain ⟨p1, hp1, hp2⟩ := wW_get (ω := ω) (M := em x) hc1
  refine va_copyi hx hb (hml.trans hh.1.symm) hown (hts _ hlink) (hts _ hnat) (hts _ hstat) (hts _ hini) hK hP (wD hD (em x)) hS p0 p1 0 0 hp hp2 rfl rfl rfl (by decide) (by decide) hw (by have e0 : (0 : Int32).toNatClampNeg = 0 := (by decide);  rw [e0, Nat.zero_add]; exact h1) (by have e0 : (0 : Int32).toNatClampNeg = 0 := (by decide);                                             rw [e0, Nat.zero_add]; exact h2) (fun _ _ => rfl) hfr hlo hdg (fun H1 locs1 hP1 _ hS1 => ?_)
  refine kk q hq ht hct ls H1 locs1 hh ?_ hS1
  have e1 := wW_set (ω := ω) (M := em x) hN hc1 hp1 (va_cpy (em x k a) (em x k1 a1) 0 0 w.toNatClampNeg) (em x') (by rw [hv, uM_same, cT_same]) (fun k' a' hne => by
    rw [hv]
    by_cases hk : k' = k1
    · subst hk
      rw [uM_same, cT_ne _ _ _ (fun e => hne ⟨rfl, e⟩)]
    · rw [uM_ne _ _ _ hk])
  rw [← e1]
  exact hP1
/-- ends of a method -/
theorem g_iret {ty : FieldType} (hR : RetI Γ ω L cc ty) {r : Int32} (hn : narrow ty (.int r) = .int r) (hdg : decode cc pc = .ok (.ireturn, 1)) : Gq ct Γ ω L em pc lv [.int r] x (some (r, x)) := by
  intro q hq ht hct ls H locs hh hP hS
  cases hq
  have e1 : r = (gT Γ).1 := by rw [ht]
  have e2 : em x = (gT Γ).2 := by rw [ht]
  subst e1
  rw [e2] at hP
  exact hR ct pc ls H locs hct hdg hn hP hS
theorem g_nret {ty : FieldType} (hR : RetI Γ ω L cc ty) {r : Int32} (hty : ∀ v, narrow ty (.int v) = .int (vp_nar ty v)) (hdg : decode cc pc = .ok (.ireturn, 1)) : Gq ct Γ ω L em pc lv [.int r] x (gd (nb ty r) (some (r, x))) := by
  refine g_gd (fun hb => ?_)
  exact g_iret hR (by rw [hty, of_decide_eq_true hb]) hdg
theorem g_vret (hR : RetV Γ ω L cc) {r : Int32} (hdg : decode cc pc = .ok (.return_, 1)) : Gq ct Γ ω L em pc lv [] x (some (r, x)) := by
  intro q hq ht hct ls H locs hh hP hS
  cases hq
  have e2 : em x = (gT Γ).2 := by rw [ht]
  rw [e2] at hP
  exact hR ct pc ls H locs hct hdg hP hS
theorem g_fret (hR : RetF Γ ω L cc) {r : UInt32} (hdg : decode cc pc = .ok (.freturn, 1)) : Gq ct Γ ω L em pc lv [.float r] x (some (r.toInt32, x)) := by
  intro q hq ht hct ls H locs hh hP hS
  cases hq
  have e1 : r = (gT Γ).1.toUInt32 := by rw [ht]; simp
  have e2 : em x = (gT Γ).2 := by rw [ht]
  subst e1
  rw [e2] at hP
  exact hR ct pc ls H locs hct hdg hP hS
theorem g_tsIn (h : CxOk Γ l rm nL ω L cc own ws) {dflt lo hi : Int} {offs : Array Int} {len : Nat} {a : Int32} (b : Int32) {off : Int} (tgt : Nat) (hab : a = b) (hdg : decode cc pc = .ok (.tableswitch dflt lo hi offs, len)) (h1 : ¬ b.toInt < lo) (h2 : ¬ hi < b.toInt) (ho : offs[(b.toInt - lo).toNat]? = some off) (ht : (pc : Int) + off = (tgt : Int)) (kk : Gq ct Γ ω L em tgt lv st x X) : Gq ct Γ ω L em pc lv (.int a :: st) x X := by
  obtain ⟨p, l', e, R, s, m, args, below, meth, c, Q, A, nL', tg⟩ := Γ
  obtain ⟨-, -, -, hx, hb, hml, hown, hts, hK, hD, hA, hN, hZ⟩ := h
  subst hab
  exact fun q hq ht' hct ls H locs hh hP hS => lv_tableIn hx hb hdg h1 h2 ho ht (kk q hq ht' hct ls H locs hh hP hS)
theorem g_tsOut (h : CxOk Γ l rm nL ω L cc own ws) {dflt lo hi : Int} {offs : Array Int} {len : Nat} {a : Int32} (tgt : Nat) (hout : a.toInt < lo ∨ hi < a.toInt) (hdg : decode cc pc = .ok (.tableswitch dflt lo hi offs, len)) (ht : (pc : Int) + dflt = (tgt : Int)) (kk : Gq ct Γ ω L em tgt lv st x X) : Gq ct Γ ω L em pc lv (.int a :: st) x X := by
  obtain ⟨p, l', e, R, s, m, args, below, meth, c, Q, A, nL', tg⟩ := Γ
  obtain ⟨-, -, -, hx, hb, hml, hown, hts, hK, hD, hA, hN, hZ⟩ := h
  exact fun q hq ht' hct ls H locs hh hP hS => lv_tableOut hx hb hdg hout ht (kk q hq ht' hct ls H locs hh hP hS)
theorem g_lsw (h : CxOk Γ l rm nL ω L cc own ws) {dflt : Int} {ps : Array (Int × Int)} {len : Nat} {a : Int32} {off : Int} (tgt : Nat) (hdg : decode cc pc = .ok (.lookupswitch dflt ps, len)) (hp : (ps.toList.zip (ps.toList.drop 1)).all (fun (a, next) => a.1 < next.1) = true) (ho : Op.lookupswitch.offset ps.toList dflt a.toInt = off) (ht : (pc : Int) + off = (tgt : Int)) (kk : Gq ct Γ ω L em tgt lv st x X) : Gq ct Γ ω L em pc lv (.int a :: st) x X := by
  obtain ⟨p, l', e, R, s, m, args, below, meth, c, Q, A, nL', tg⟩ := Γ
  obtain ⟨-, -, -, hx, hb, hml, hown, hts, hK, hD, hA, hN, hZ⟩ := h
  exact fun q hq ht' hct ls H locs hh hP hS => lv_lookup hx hb hdg hp ho ht (kk q hq ht' hct ls H locs hh hP hS)
theorem g_ldc (h : CxOk Γ l rm nL ω L cc own ws) {index : Nat} (v : Int32) (hdg : decode cc pc = .ok (.ldc index, 2)) (hc : Cond.constant own index v ∈ ws) (kk : Gq ct Γ ω L em (pc + 2) lv (.int v :: st) x X) : Gq ct Γ ω L em pc lv st x X := by
  obtain ⟨p, l', e, R, s, m, args, below, meth, c, Q, A, nL', tg⟩ := Γ
  obtain ⟨-, -, -, hx, hb, hml, hown, hts, hK, hD, hA, hN, hZ⟩ := h
  exact fun q hq ht' hct ls H locs hh hP hS => lv_ldc hx hb hown (hts _ hc) hdg (kk q hq ht' hct ls H locs hh hP hS)
end ROWS
/-! CONTRACTS -/
def PreW (ω : Wd) (L : Ly) (av : List Value) (M : Mm) (sz : Nat) : Array Value → State → Prop := va_Pc av (fun U => U.heap.size = sz ∧ va_P ω.1 vwCl (wW ω L M) U.heap ∧ va_K ω.1 vwCl (tyW ω) U ∧ Apart ω L ∧ Nst U)
def PostI (ω : Wd) (L : Ly) (r : Int32) (M : Mm) (sz : Nat) : Array Value → State → Outcome → State → Prop := va_Qi (fun (q : Int32) (_ : Unit) => q = r) (fun _ t => va_P ω.1 vwCl (wW ω L M) t.heap) (aW ω L sz)
def PostV (ω : Wd) (L : Ly) (M : Mm) (sz : Nat) : Array Value → State → Outcome → State → Prop := va_Qv (fun (_ : Unit) => True) (fun _ t => va_P ω.1 vwCl (wW ω L M) t.heap) (aW ω L sz)
def PostF (ω : Wd) (L : Ly) (r : Int32) (M : Mm) (sz : Nat) : Array Value → State → Outcome → State → Prop := va_Qf (fun (q : UInt32) (_ : Unit) => q = r.toUInt32) (fun _ t => va_P ω.1 vwCl (wW ω L M) t.heap) (aW ω L sz)
def MI (l : Launch) (y : MethodName) (ws : List Cond) (rm : Room) (ω : Wd) (L : Ly) (av : List Value) (M : Mm) (r : Int32) (M' : Mm) : Prop := ∀ sz : Nat, Met l y ws rm (PreW ω L av M sz) (PostI ω L r M' sz) rm.cells rm.slots (aW ω L sz)
def MV (l : Launch) (y : MethodName) (ws : List Cond) (rm : Room) (ω : Wd) (L : Ly) (av : List Value) (M : Mm) (M' : Mm) : Prop := ∀ sz : Nat, Met l y ws rm (PreW ω L av M sz) (PostV ω L M' sz) rm.cells rm.slots (aW ω L sz)
def MF (l : Launch) (y : MethodName) (ws : List Cond) (rm : Room) (ω : Wd) (L : Ly) (av : List Value) (M : Mm) (r : Int32) (M' : Mm) : Prop := ∀ sz : Nat, Met l y ws rm (PreW ω L av M sz) (PostF ω L r M' sz) rm.cells rm.slots (aW ω L sz)
theorem PreW_blind {ω : Wd} {L : Ly} {av : List Value} {M : Mm} {sz : Nat} : FrameBlind (PreW ω L av M sz) := fun a U g mk q => by
  obtain ⟨q0, q1, qP, qK, qD, qZ⟩ := q
  exact ⟨q0, q1, qP, va_K.moved (u := U) (U := U.calling g mk a) (Vm.Alike.refl U.vm) qK, qD, va_Nw.same rfl rfl qZ⟩
theorem aW_S {ω : Wd} {L : Ly} {A : Nat → Prop} {H0 H : Heap} {locs : List Loc} (hD : ∀ q ∈ L.1, A (th ω q.1 q.2)) (hA : ∀ q, H0.size ≤ q → A q) (hS : va_S A H0 H locs) : ∀ q, aW ω L H.size q → A q := by
  intro q h
  rcases h with ⟨i, hi, rfl⟩ | h
  · exact hD i hi
  · exact hA q (Nat.le_trans hS.1 h)
section ENTRY
variable {l : Launch} {y : MethodName} {ws ws' : List Cond} {rm : Room} {cc : ByteArray} {maxL : Nat} {ty : FieldType} {ω : Wd} {L : Ly} {av : List Value} {M M' : Mm} {r : Int32}
set_option maxHeartbeats 4000000 in
theorem met_i (hy : plainName y.cls = true) (hw : ws = Cond.code y cc maxL (some ty) :: ws') (hav : (lg_sl av).length ≤ maxL) (hN : L.1.Nodup)
    (body : ∀ Γ : Cx, CxOk Γ l rm maxL ω L cc y.cls ws → RetI Γ ω L cc ty → gT Γ = (r, M') → Vr 0 Γ ω L 0 (lv_args 0 av) [] M) : MI l y ws rm ω L av M r M' := by
  intro sz
  refine Met.ofW (cc := cc) (maxL := maxL) (ret := some ty) hy hw ?_
  intro p e s m args below meth c s₁ B hml hv
  obtain ⟨rfl, hsz, hP, hK, hD, hZ⟩ := hv
  subst hsz
  have hts := atoms_spec (ws := ws) B.pre
  have hlocks := B.notSynchronized
  have hl := lv_entry av (n := maxL) hav
  rw [lg_entry_eq]
  refine body (p, l, e, rm, s, m, av.toArray, below, meth, c, MQ below (PostI ω L r M' s.heap.size) av.toArray s rm.cells rm.slots (aW ω L s.heap.size), aW ω L s.heap.size, maxL, (r, M')) ⟨rfl, rfl, rfl, B.exec, B.bytes, hml, findClass_of_methodNamed B.named, hts, hK, ⟨hD, fun q hq => Or.inl ⟨q, hq, rfl⟩⟩, fun q hq => Or.inr hq, hN, hZ⟩ ?_ rfl _ s.heap [] hl hP va_S.rf
  intro ct pc ls H locs hct hdg hn hP1 hS1
  refine W.widen hct.1 hct.2 ?_
  exact W.zret B.exec B.bytes B.returns hn (fun t ht hW => ⟨⟨r, (), rfl, rfl, by show va_P _ _ _ t.heap; rw [ht]; exact hP1⟩, hS1.F ht⟩) hS1.2.2 hdg hlocks
set_option maxHeartbeats 4000000 in
theorem met_v (hy : plainName y.cls = true) (hw : ws = Cond.code y cc maxL none :: ws') (hav : (lg_sl av).length ≤ maxL) (hN : L.1.Nodup)
    (body : ∀ Γ : Cx, CxOk Γ l rm maxL ω L cc y.cls ws → RetV Γ ω L cc → gT Γ = (r, M') → Vr 0 Γ ω L 0 (lv_args 0 av) [] M) : MV l y ws rm ω L av M M' := by
  intro sz
  refine Met.ofW (cc := cc) (maxL := maxL) (ret := none) hy hw ?_
  intro p e s m args below meth c s₁ B hml hv
  obtain ⟨rfl, hsz, hP, hK, hD, hZ⟩ := hv
  subst hsz
  have hts := atoms_spec (ws := ws) B.pre
  have hlocks := B.notSynchronized
  have hl := lv_entry av (n := maxL) hav
  rw [lg_entry_eq]
  refine body (p, l, e, rm, s, m, av.toArray, below, meth, c, MQ below (PostV ω L M' s.heap.size) av.toArray s rm.cells rm.slots (aW ω L s.heap.size), aW ω L s.heap.size, maxL, (r, M')) ⟨rfl, rfl, rfl, B.exec, B.bytes, hml, findClass_of_methodNamed B.named, hts, hK, ⟨hD, fun q hq => Or.inl ⟨q, hq, rfl⟩⟩, fun q hq => Or.inr hq, hN, hZ⟩ ?_ rfl _ s.heap [] hl hP va_S.rf
  intro ct pc ls H locs hct hdg hP1 hS1
  refine W.widen hct.1 hct.2 ?_
  exact W.vret B.exec B.bytes B.returns (fun t ht hW => ⟨⟨(), rfl, trivial, by show va_P _ _ _ t.heap; rw [ht]; exact hP1⟩, hS1.F ht⟩) hS1.2.2 hdg hlocks
set_option maxHeartbeats 4000000 in
theorem met_f (hy : plainName y.cls = true) (hw : ws = Cond.code y cc maxL (some .float) :: ws') (hav : (lg_sl av).length ≤ maxL) (hN : L.1.Nodup)
    (body : ∀ Γ : Cx, CxOk Γ l rm maxL ω L cc y.cls ws → RetF Γ ω L cc → gT Γ = (r, M') → Vr 0 Γ ω L 0 (lv_args 0 av) [] M) : MF l y ws rm ω L av M r M' := by
  intro sz
  refine Met.ofW (cc := cc) (maxL := maxL) (ret := some .float) hy hw ?_
  intro p e s m args below meth c s₁ B hml hv
  obtain ⟨rfl, hsz, hP, hK, hD, hZ⟩ := hv
  subst hsz
  have hts := atoms_spec (ws := ws) B.pre
  have hlocks := B.notSynchronized
  have hl := lv_entry av (n := maxL) hav
  rw [lg_entry_eq]
  refine body (p, l, e, rm, s, m, av.toArray, below, meth, c, MQ below (PostF ω L r M' s.heap.size) av.toArray s rm.cells rm.slots (aW ω L s.heap.size), aW ω L s.heap.size, maxL, (r, M')) ⟨rfl, rfl, rfl, B.exec, B.bytes, hml, findClass_of_methodNamed B.named, hts, hK, ⟨hD, fun q hq => Or.inl ⟨q, hq, rfl⟩⟩, fun q hq => Or.inr hq, hN, hZ⟩ ?_ rfl _ s.heap [] hl hP va_S.rf
  intro ct pc ls H locs hct hdg hP1 hS1
  refine W.widen hct.1 hct.2 ?_
  exact W.fret B.exec B.bytes B.returns (fun t ht hW => ⟨⟨_, (), rfl, rfl, by show va_P _ _ _ t.heap; rw [ht]; exact hP1⟩, hS1.F ht⟩) hS1.2.2 hdg hlocks
end ENTRY
section CALLS
variable {ct : Nat} {σ τ : Type} {Γ : Cx} {l : Launch} {rm : Room} {nL : Nat} {ω : Wd} {L : Ly} {cc : ByteArray} {own : String} {ws : List Cond} {em : σ → Mm} {pc : Nat} {lv : List (Nat × Value)} {st : List Value} {x : σ} {X Y : Option (Int32 × σ)}
set_option maxHeartbeats 4000000 in
/-- a method of an object that answers an int -/
theorem g_callI (h : CxOk Γ l rm nL ω L cc own ws) {C : String} {T : u_T} {N ci k a index maxL : Nat} {ty : FieldType} {fs : List (Option (Nat × Nat))} {y : MethodName} {ws2 ws2' : List Cond} {rm2 : Room} {bytes : ByteArray} {As : List Value} {G : Option (Int32 × τ)} {F : Int32 → τ → Option (Int32 × σ)} (up : τ → σ)
    (hM : ∀ r t, G = some (r, t) → MI l y ws2 rm2 ω L (.ref (th ω k a) :: As) (em x) r (em (up t))) (hc : inL L k a (0, ci, fs)) (hcl : vwCl[ci]? = some (C, T, N)) (n : Nat) (hn : As.length = n) (hT : GoodIn ws (wsV own index C y ws2)) (hw : ws2 = Cond.code y bytes maxL (some ty) :: ws2') (hrc : rm2.cells = 0) (hrs : rm2.slots = 0)
    (hd : y.cls = C ∧ y.cls ≠ "java/lang/invoke/MethodHandle" ∧ y.cls ≠ "java/lang/invoke/VarHandle" ∧ (parseMethodDescriptor y.desc).map (fun d => d.parameters.length) = some n) (hRm : rm2.frames + 1 ≤ rm.frames ∧ 8 + (maxL + 11) + rm2.locals ≤ rm.locals) {st0 : List Value} (hst : st0 = As.reverse ++ .ref (th ω k a) :: st) (hsum : (st.map fun v => v.category).sum ≤ 8) (hdg : decode cc pc = .ok (.invokevirtual index, 3))
    (kk : ∀ r t, Gq ct Γ ω L em (pc + 3) lv (.int r :: st) (up t) (F r t)) : Gq ct Γ ω L em pc lv st0 x (bnd G F) := by
  intro q hq ht hct
  obtain ⟨r0, t0, hG, hF⟩ := bnd_some hq
  have hM0 := hM r0 t0 hG
  have kk0 := kk r0 t0 q hF ht hct
  obtain ⟨p, l', e, R, s, m, args, below, meth, c, Q, A, nL', tgt⟩ := Γ
  obtain ⟨hll, hR, hnL, hx, hb, hml, hown, hts, hK, hD, hA, hN, hZ⟩ := h
  subst hll; subst hR; subst hnL
  intro ls H locs hh hP hS
  obtain ⟨p0, hp0, hp⟩ := wW_get (ω := ω) (M := em x) hc
  refine va_calli (va_runV (As := As) (rest := st) ⟨hx, hb, hml, hown, hts⟩ (hM0 H.size) (cwV n hts hT hw rfl rfl hd hRm) ⟨PreW_blind, va_recv hK hP hcl hp, fun U hU hW => ⟨rfl, by rw [hU], by rw [hU]; exact hP, va_K.moved hW.alike hK, hD.1, va_Nw.warmM hW hZ⟩⟩ rfl hn hh.1 hst (lv_room hsum) hdg ⟨by rw [hrc]; exact hct.1, by rw [hrs]; exact hct.2⟩) hS (fun q _ h => aW_S hD.2 hA hS q h) (aW_S hD.2 hA hS) (fun r u t H1 locs1 ht1 hvm hw hB hz1 hk1 hS1 => ?_)
  subst hw
  rw [ht1] at hB
  rw [hrc, hrs]
  exact kk0 ls H1 locs1 hh hB hS1
set_option maxHeartbeats 4000000 in
/-- a method of an object that answers nothing -/
theorem g_callV (h : CxOk Γ l rm nL ω L cc own ws) {C : String} {T : u_T} {N ci k a index maxL : Nat} {fs : List (Option (Nat × Nat))} {y : MethodName} {ws2 ws2' : List Cond} {rm2 : Room} {bytes : ByteArray} {As : List Value} {G : Option (Int32 × τ)} {F : Int32 → τ → Option (Int32 × σ)} (up : τ → σ)
    (hM : ∀ r t, G = some (r, t) → MV l y ws2 rm2 ω L (.ref (th ω k a) :: As) (em x) (em (up t))) (hc : inL L k a (0, ci, fs)) (hcl : vwCl[ci]? = some (C, T, N)) (n : Nat) (hn : As.length = n) (hT : GoodIn ws (wsV own index C y ws2)) (hw : ws2 = Cond.code y bytes maxL none :: ws2') (hrc : rm2.cells = 0) (hrs : rm2.slots = 0)
    (hd : y.cls = C ∧ y.cls ≠ "java/lang/invoke/MethodHandle" ∧ y.cls ≠ "java/lang/invoke/VarHandle" ∧ (parseMethodDescriptor y.desc).map (fun d => d.parameters.length) = some n) (hRm : rm2.frames + 1 ≤ rm.frames ∧ 8 + (maxL + 11) + rm2.locals ≤ rm.locals) {st0 : List Value} (hst : st0 = As.reverse ++ .ref (th ω k a) :: st) (hsum : (st.map fun v => v.category).sum ≤ 8) (hdg : decode cc pc = .ok (.invokevirtual index, 3))
    (kk : ∀ r t, Gq ct Γ ω L em (pc + 3) lv st (up t) (F r t)) : Gq ct Γ ω L em pc lv st0 x (bnd G F) := by
  intro q hq ht hct
  obtain ⟨r0, t0, hG, hF⟩ := bnd_some hq
  have hM0 := hM r0 t0 hG
  have kk0 := kk r0 t0 q hF ht hct
  obtain ⟨p, l', e, R, s, m, args, below, meth, c, Q, A, nL', tgt⟩ := Γ
  obtain ⟨hll, hR, hnL, hx, hb, hml, hown, hts, hK, hD, hA, hN, hZ⟩ := h
  subst hll; subst hR; subst hnL
  intro ls H locs hh hP hS
  obtain ⟨p0, hp0, hp⟩ := wW_get (ω := ω) (M := em x) hc
  refine va_callv (va_runV (As := As) (rest := st) ⟨hx, hb, hml, hown, hts⟩ (hM0 H.size) (cwV n hts hT hw rfl rfl hd hRm) ⟨PreW_blind, va_recv hK hP hcl hp, fun U hU hW => ⟨rfl, by rw [hU], by rw [hU]; exact hP, va_K.moved hW.alike hK, hD.1, va_Nw.warmM hW hZ⟩⟩ rfl hn hh.1 hst (lv_room hsum) hdg ⟨by rw [hrc]; exact hct.1, by rw [hrs]; exact hct.2⟩) hS (fun q _ h => aW_S hD.2 hA hS q h) (aW_S hD.2 hA hS) (fun u t H1 locs1 ht1 hvm hw hB hz1 hk1 hS1 => ?_)
  rw [ht1] at hB
  rw [hrc, hrs]
  exact kk0 ls H1 locs1 hh hB hS1
set_option maxHeartbeats 4000000 in
/-- a static method of numbers alone -/
theorem g_callP (h : CxOk Γ l rm nL ω L cc own ws) {index maxL : Nat} {ty : FieldType} {y : MethodName} {ws2 ws2' : List Cond} {rm2 : Room} {bytes : ByteArray} {As : List Value} {G : Option (Int32 × Mm)} {F : Int32 → Option (Int32 × σ)}
    (hM : ∀ r t, G = some (r, t) → MI l y ws2 rm2 ω L00 As M00 r t) (n : Nat) (hn : As.length = n) (hT : GoodIn ws (va_wsS own index y ws2)) (hw : ws2 = Cond.code y bytes maxL (some ty) :: ws2') (hrc : rm2.cells = 0) (hrs : rm2.slots = 0)
    (hd : y.cls ≠ "java/lang/invoke/MethodHandle" ∧ y.cls ≠ "java/lang/invoke/VarHandle" ∧ (parseMethodDescriptor y.desc).map (fun d => d.parameters.length) = some n) (hRm : rm2.frames + 1 ≤ rm.frames ∧ 8 + (maxL + 11) + rm2.locals ≤ rm.locals) {st0 : List Value} (hst : st0 = As.reverse ++ st) (hsum : (st.map fun v => v.category).sum ≤ 8) (hdg : decode cc pc = .ok (.invokestatic index, 3))
    (kk : ∀ r, Gq ct Γ ω L em (pc + 3) lv (.int r :: st) x (F r)) : Gq ct Γ ω L em pc lv st0 x (bnd G (fun r _ => F r)) := by
  intro q hq ht hct
  obtain ⟨r0, t0, hG, hF⟩ := bnd_some hq
  have hM0 := hM r0 t0 hG
  have kk0 := kk r0 q hF ht hct
  obtain ⟨p, l', e, R, s, m, args, below, meth, c, Q, A, nL', tgt⟩ := Γ
  obtain ⟨hll, hR, hnL, hx, hb, hml, hown, hts, hK, hD, hA, hN, hZ⟩ := h
  subst hll; subst hR; subst hnL
  intro ls H locs hh hP hS
  have h00 : ∀ q, aW ω L00 H.size q → H.size ≤ q := by
    rintro q (⟨i, hi, -⟩ | hq)
    · cases hi
    · exact hq
  refine va_calli (va_runS (As := As) (rest := st) ⟨hx, hb, hml, hown, hts⟩ (hM0 H.size) (va_cwS n hts hT hw rfl rfl hd hRm) ⟨PreW_blind, fun U hU hW => ⟨rfl, by rw [hU], (fun k q hk => by simp [wW, L00] at hk), va_K.moved hW.alike hK, (fun i j p q hi => by simp [L00] at hi), va_Nw.warmM hW hZ⟩⟩ rfl hn hh.1 hst (lv_room hsum) hdg ⟨by rw [hrc]; exact hct.1, by rw [hrs]; exact hct.2⟩) hS (fun q hl h => absurd hl (Nat.not_lt.mpr (h00 q h))) (fun q h => hA q (Nat.le_trans hS.1 (h00 q h))) (fun r u t H1 locs1 ht1 hvm hw hB hz1 hk1 hS1 => ?_)
  subst hw
  rw [hrc, hrs]
  refine kk0 ls H1 locs1 hh (hP.kept (fun k q hk => hk1 q.1 (hP k q hk).lt (fun h => absurd (hP k q hk).lt (Nat.not_lt.mpr (h00 _ h))))) hS1
set_option maxHeartbeats 4000000 in
/-- a static method of numbers alone, of a nest mate -/
theorem g_callPN (h : CxOk Γ l rm nL ω L cc own ws) {index maxL : Nat} {host : String} {ty : FieldType} {y : MethodName} {ws2 ws2' : List Cond} {rm2 : Room} {bytes : ByteArray} {As : List Value} {G : Option (Int32 × Mm)} {F : Int32 → Option (Int32 × σ)}
    (hM : ∀ r t, G = some (r, t) → MI l y ws2 rm2 ω L00 As M00 r t) (n : Nat) (hn : As.length = n) (hT : GoodIn ws ws2) (hw : ws2 = Cond.code y bytes maxL (some ty) :: ws2') (hini : Cond.initialized y.cls ∈ ws) (hstt : Cond.static y ∈ ws) (hnx : ∀ U, Nst U → va_Nw (.methodLinkNest own index y host) U) (hrc : rm2.cells = 0) (hrs : rm2.slots = 0)
    (hd : y.cls ≠ "java/lang/invoke/MethodHandle" ∧ y.cls ≠ "java/lang/invoke/VarHandle" ∧ (parseMethodDescriptor y.desc).map (fun d => d.parameters.length) = some n) (hRm : rm2.frames + 1 ≤ rm.frames ∧ 8 + (maxL + 11) + rm2.locals ≤ rm.locals) {st0 : List Value} (hst : st0 = As.reverse ++ st) (hsum : (st.map fun v => v.category).sum ≤ 8) (hdg : decode cc pc = .ok (.invokestatic index, 3))
    (kk : ∀ r, Gq ct Γ ω L em (pc + 3) lv (.int r :: st) x (F r)) : Gq ct Γ ω L em pc lv st0 x (bnd G (fun r _ => F r)) := by
  intro q hq ht hct
  obtain ⟨r0, t0, hG, hF⟩ := bnd_some hq
  have hM0 := hM r0 t0 hG
  have kk0 := kk r0 q hF ht hct
  obtain ⟨p, l', e, R, s, m, args, below, meth, c, Q, A, nL', tgt⟩ := Γ
  obtain ⟨hll, hR, hnL, hx, hb, hml, hown, hts, hK, hD, hA, hN, hZ⟩ := h
  subst hll; subst hR; subst hnL
  intro ls H locs hh hP hS
  have h00 : ∀ q, aW ω L00 H.size q → H.size ≤ q := by
    rintro q (⟨i, hi, -⟩ | hq)
    · cases hi
    · exact hq
  refine va_calli (va_runSN (host := host) (As := As) (rest := st) ⟨hx, hb, hml, hown, hts⟩ (hM0 H.size) ⟨va_cnB n hts hT hw rfl rfl (hnx _ hZ) (hts _ hini) hd hRm, hts _ hstt, trivial⟩ ⟨PreW_blind, fun U hU hW => ⟨rfl, by rw [hU], (fun k q hk => by simp [wW, L00] at hk), va_K.moved hW.alike hK, (fun i j p q hi => by simp [L00] at hi), va_Nw.warmM hW hZ⟩⟩ rfl hn hh.1 hst (lv_room hsum) hdg ⟨by rw [hrc]; exact hct.1, by rw [hrs]; exact hct.2⟩) hS (fun q hl h => absurd hl (Nat.not_lt.mpr (h00 q h))) (fun q h => hA q (Nat.le_trans hS.1 (h00 q h))) (fun r u t H1 locs1 ht1 hvm hw hB hz1 hk1 hS1 => ?_)
  subst hw
  rw [hrc, hrs]
  refine kk0 ls H1 locs1 hh (hP.kept (fun k q hk => hk1 q.1 (hP k q hk).lt (fun h => absurd (hP k q hk).lt (Nat.not_lt.mpr (h00 _ h))))) hS1
end CALLS

/-! THE TWO WORLDS. The game: block 0 the face's own object, 1 to 8 the states (1 now, 2 snapshot, 3 trial, 4 to 8 the history's), 9 the script, 10 the draws, 11 the row, 12 the history. The reference: one block. -/
def shS (k : Nat) : Nat → Sh := fun a => match a with
  | 0 => (0, 4, [some (k, 1), some (k, 2), some (k, 3), some (k, 4), some (k, 5), some (k, 6), some (k, 7), some (k, 8), some (k, 9), some (k, 10), none, none, none])
  | 1 => (1, 6, [])
  | 2 => (1, 6, [])
  | _ => (1, 30, [])
def shC : Nat → Nat → Sh := fun k => match k with
  | 0 => fun _ => (0, 5, [some (1, 0), some (2, 0), some (3, 0), some (12, 0), some (9, 0), some (10, 0), some (11, 0), none])
  | 9 => fun a => match a with
    | 0 => (0, 3, [some (9, 1), none, none, none, none, none, none])
    | _ => (2, 60, [])
  | 10 => fun _ => (0, 0, [none])
  | 11 => fun a => match a with
    | 0 => (0, 2, [some (11, 1), none])
    | _ => (1, 6, [])
  | 12 => fun a => match a with
    | 0 => (0, 1, [some (12, 1), none])
    | _ => (3, 5, [])
  | k => shS k
def idS (k : Nat) : List (Nat × Nat) := [(k, 0), (k, 1), (k, 2), (k, 3), (k, 4), (k, 5), (k, 6), (k, 7), (k, 8), (k, 9), (k, 10)]
def idC : List (Nat × Nat) := [(0, 0), (9, 0), (9, 1), (10, 0), (11, 0), (11, 1), (12, 0), (12, 1)] ++ (idS 1 ++ (idS 2 ++ (idS 3 ++ (idS 4 ++ (idS 5 ++ (idS 6 ++ (idS 7 ++ idS 8)))))))
def LC : Ly := (idC, shC)
theorem LC_nd : LC.1.Nodup := by decide +kernel
theorem L00_nd : L00.1.Nodup := List.nodup_nil
/-- the blocks that are states -/
def kS (k : Nat) : Prop := 1 ≤ k ∧ k ≤ 8
theorem kS1 : kS 1 := ⟨by decide, by decide⟩
theorem kS2 : kS 2 := ⟨by decide, by decide⟩
theorem kS3 : kS 3 := ⟨by decide, by decide⟩
theorem kS_cases {k : Nat} (h : kS k) : k = 1 ∨ k = 2 ∨ k = 3 ∨ k = 4 ∨ k = 5 ∨ k = 6 ∨ k = 7 ∨ k = 8 := by
  obtain ⟨h1, h2⟩ := h
  omega
theorem inS {k : Nat} (h : kS k) (a : Nat) (ha : a < 11) : inL LC k a (shS k a) := by
  refine ⟨?_, ?_⟩
  · have hk := kS_cases h
    have e : ((List.range 9).all fun k => (List.range 11).all fun a => decide (k = 0) || decide ((k, a) ∈ idC)) = true := by decide +kernel
    have e1 := List.all_eq_true.mp (List.all_eq_true.mp e k (List.mem_range.mpr (by have := h.2; omega))) a (List.mem_range.mpr ha)
    have h1 := h.1
    simp only [Bool.or_eq_true, decide_eq_true_eq] at e1
    rcases e1 with e1 | e1
    · omega
    · exact e1
  · rcases kS_cases h with rfl | rfl | rfl | rfl | rfl | rfl | rfl | rfl <;> rfl
def sb (v : Int32) : Bool := decide (1 ≤ v.toNatClampNeg) && decide (v.toNatClampNeg ≤ 8)
theorem sb_k {v : Int32} (h : sb v = true) : kS v.toNatClampNeg := by
  simp only [sb, Bool.and_eq_true, decide_eq_true_eq] at h
  exact h
theorem iC_0_0 : inL LC 0 0 (shC 0 0) := ⟨by decide +kernel, rfl⟩
theorem iC_9_0 : inL LC 9 0 (shC 9 0) := ⟨by decide +kernel, rfl⟩
theorem iC_9_1 : inL LC 9 1 (shC 9 1) := ⟨by decide +kernel, rfl⟩
theorem iC_10_0 : inL LC 10 0 (shC 10 0) := ⟨by decide +kernel, rfl⟩
theorem iC_11_0 : inL LC 11 0 (shC 11 0) := ⟨by decide +kernel, rfl⟩
theorem iC_11_1 : inL LC 11 1 (shC 11 1) := ⟨by decide +kernel, rfl⟩
theorem iC_12_0 : inL LC 12 0 (shC 12 0) := ⟨by decide +kernel, rfl⟩
theorem iC_12_1 : inL LC 12 1 (shC 12 1) := ⟨by decide +kernel, rfl⟩
abbrev eI : Mm → Mm := fun M => M
theorem uMr (M : Mm) (k : Nat) (T : Tm) (a i : Nat) : uM M k T k a i = T a i := by rw [uM_same]
theorem nb_n {v : Int32} (h : nb .char v = true) : narrow .char (.int v) = .int v := by
  have e : vp_nar .char v = v := of_decide_eq_true h
  show Value.int (vp_nar .char v) = .int v
  rw [e]
theorem nb_f {v : Int32} (h : nb .char v = true) : fits .char (.int v) = true := by
  have e : vp_nar .char v = v := of_decide_eq_true h
  rw [← e, vp_nar_char]
  obtain ⟨n, hn, e2⟩ : ∃ n : Nat, n < 65536 ∧ v.toUInt32.toUInt16.toUInt32.toInt32 = nI n := by
    refine ⟨v.toUInt32.toUInt16.toNat, v.toUInt32.toUInt16.toNat_lt, ?_⟩
    apply Int32.toBitVec_inj.mp
    apply BitVec.eq_of_toNat_eq
    rw [pk_tn (by have := v.toUInt32.toUInt16.toNat_lt; omega)]
    simp
    rfl
  rw [e2]
  exact (pk_charN hn).2
/-- fuel: more than any loop turns -/
def fu : Nat := 1000
theorem MI_self {l : Launch} {y : MethodName} {ws : List Cond} {rm : Room} {ω : Wd} {L : Ly} {av : List Value} {M M' : Mm} {k : Nat} {r : Int32} (h : MI l y ws rm ω L av (uM M k (M k)) r M') : MI l y ws rm ω L av M r M' := by rwa [uM_self] at h
theorem MV_self {l : Launch} {y : MethodName} {ws : List Cond} {rm : Room} {ω : Wd} {L : Ly} {av : List Value} {M M' : Mm} {k : Nat} (h : MV l y ws rm ω L av (uM M k (M k)) M') : MV l y ws rm ω L av M M' := by rwa [uM_self] at h
