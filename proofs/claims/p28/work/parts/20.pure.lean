/-! SUMS, LINES AND RANKS: what hangs together in a state -/
def ind (b : Bool) : Nat := if b then 1 else 0
theorem cnt_sm (P : Nat → Bool) (n : Nat) : cnt P n = sm (fun i => ind (P i)) n := by
  induction n with
  | zero => rfl
  | succ n ih => rw [cnt, sm, ih]; rfl
theorem sm_add (f g : Nat → Nat) (n : Nat) : sm (fun i => f i + g i) n = sm f n + sm g n := by
  induction n with
  | zero => rfl
  | succ n ih => rw [sm, sm, sm, ih]; omega
theorem sm_zero {f : Nat → Nat} {n : Nat} (h : ∀ i, i < n → f i = 0) : sm f n = 0 := by
  induction n with
  | zero => rfl
  | succ n ih => rw [sm, ih (fun i hi => h i (by omega)), h n (by omega)]
theorem sm_single {f : Nat → Nat} {n g : Nat} (hg : g < n) (h : ∀ i, i < n → i ≠ g → f i = 0) : sm f n = f g := by
  induction n with
  | zero => omega
  | succ n ih =>
    rw [sm]
    by_cases hn : g = n
    · subst hn
      rw [sm_zero (fun i hi => h i (by omega) (by omega))]
      omega
    · rw [ih (by omega) (fun i hi hne => h i (by omega) hne), h n (by omega) (fun e => hn e.symm)]
      omega
theorem sm_swap (f : Nat → Nat → Nat) (n m : Nat) : sm (fun i => sm (fun j => f i j) m) n = sm (fun j => sm (fun i => f i j) n) m := by
  induction n with
  | zero => exact (sm_zero (fun _ _ => rfl)).symm
  | succ n ih =>
    rw [sm, ih, ← sm_add]
    rfl
theorem sm_mono {f g : Nat → Nat} {n : Nat} (h : ∀ i, i < n → f i ≤ g i) : sm f n ≤ sm g n := by
  induction n with
  | zero => exact Nat.le_refl _
  | succ n ih =>
    rw [sm, sm]
    have h1 := ih (fun i hi => h i (by omega))
    have h2 := h n (by omega)
    omega
theorem cnt_pos {P : Nat → Bool} {n : Nat} (h : 0 < cnt P n) : ∃ i, i < n ∧ P i = true := by
  induction n with
  | zero => exact absurd h (Nat.lt_irrefl _)
  | succ n ih =>
    rw [cnt] at h
    by_cases hp : P n = true
    · exact ⟨n, by omega, hp⟩
    · rw [if_neg hp] at h
      obtain ⟨i, hi, hP⟩ := ih h
      exact ⟨i, by omega, hP⟩
theorem cnt_in {P : Nat → Bool} {n i : Nat} (hi : i < n) (h : P i = true) : 0 < cnt P n := by
  rw [cnt_sm]
  have h1 := sm_one (v := fun i => ind (P i)) hi
  have h2 : ind (P i) = 1 := by rw [h]; rfl
  have h3 : ind (P i) ≤ sm (fun i => ind (P i)) n := h1
  omega
theorem cnt_zero {P : Nat → Bool} {n : Nat} (h : ∀ i, i < n → P i = false) : cnt P n = 0 := by
  rw [cnt_sm]
  exact sm_zero (fun i hi => by rw [h i hi]; rfl)
theorem cnt_le1 {P : Nat → Bool} {n : Nat} (h : ∀ i j, i < n → j < n → P i = true → P j = true → i = j) : cnt P n ≤ 1 := by
  induction n with
  | zero => exact Nat.zero_le _
  | succ n ih =>
    rw [cnt]
    by_cases hp : P n = true
    · have h0 : cnt P n = 0 := cnt_zero (fun i hi => by
        cases hq : P i with
        | false => rfl
        | true => have := h i n (by omega) (by omega) hq hp; omega)
      rw [if_pos hp, h0]
      exact Nat.le_refl _
    · rw [if_neg hp]
      exact ih (fun i j hi hj => h i j (by omega) (by omega))
theorem cnt_lt {P Q : Nat → Bool} {n g : Nat} (h : ∀ i, i < n → P i = true → Q i = true) (hg : g < n) (hQ : Q g = true) (hP : P g = false) : cnt P n < cnt Q n := by
  have e : cnt (fun i => P i || decide (i = g)) n = cnt P n + 1 := cnt_set hg hP (by simp) (fun i _ hne => by simp [hne])
  have l : cnt (fun i => P i || decide (i = g)) n ≤ cnt Q n := by
    rw [cnt_sm, cnt_sm]
    refine sm_mono (fun i hi => ?_)
    cases hq : Q i with
    | true => unfold ind; split <;> simp
    | false =>
      have h1 : P i = false := by
        cases hp : P i with
        | false => rfl
        | true => rw [h i hi hp] at hq; cases hq
      have h2 : ¬ i = g := fun e => by rw [e, hQ] at hq; cases hq
      simp [h1, h2]
  omega
theorem sm_all1 {g : Nat → Nat} {A : Nat} (h1 : ∀ r, r < A → g r ≤ 1) (h2 : sm g A = A) : ∀ r, r < A → g r = 1 := by
  intro r hr
  apply Classical.byContradiction
  intro hne
  have h0 : g r = 0 := by have := h1 r hr; omega
  have e := sm_set (v := fun _ => 1) (w := fun i => if i = r then 0 else 1) hr (fun i _ hi => by simp [hi])
  have l : sm g A ≤ sm (fun i => if i = r then 0 else 1) A := sm_mono (fun i hi => by
    by_cases hir : i = r
    · rw [hir, h0]; simp
    · simp [hir]; exact h1 i hi)
  have k : ∀ A : Nat, sm (fun _ => 1) A = A := fun A => by
    induction A with
    | zero => rfl
    | succ A ih => rw [sm, ih]
  rw [k] at e
  simp at e
  omega
/-- every value below A is taken, where as many as A take different values below A -/
theorem pigeon {P : Nat → Bool} {f : Nat → Nat} {n : Nat} (hb : ∀ i, i < n → P i = true → f i < cnt P n) (hi : ∀ i j, i < n → j < n → P i = true → P j = true → f i = f j → i = j) : ∀ r, r < cnt P n → ∃ i, i < n ∧ P i = true ∧ f i = r := by
  intro r hr
  have e : sm (fun r => cnt (fun i => P i && decide (f i = r)) n) (cnt P n) = cnt P n := by
    have s1 : sm (fun r => cnt (fun i => P i && decide (f i = r)) n) (cnt P n) = sm (fun r => sm (fun i => ind (P i && decide (f i = r))) n) (cnt P n) := sm_congr (fun r _ => cnt_sm _ n)
    rw [s1, sm_swap]
    have s2 : sm (fun j => sm (fun i => ind (P j && decide (f j = i))) (cnt P n)) n = sm (fun i => ind (P i)) n := by
      refine sm_congr (fun j hj => ?_)
      cases hp : P j with
      | false => rw [sm_zero (fun i _ => by simp [ind])]; rfl
      | true =>
        rw [sm_single (g := f j) (hb j hj hp) (fun i _ hne => by
          have : ¬ f j = i := fun e => hne e.symm
          simp [ind, this])]
        simp [ind]
    rw [s2, ← cnt_sm]
  have h1 := sm_all1 (g := fun r => cnt (fun i => P i && decide (f i = r)) n) (fun r _ => cnt_le1 (fun i j hi' hj' a b => by
    simp only [Bool.and_eq_true, decide_eq_true_eq] at a b
    exact hi i j hi' hj' a.1 b.1 (a.2.trans b.2.symm))) e r hr
  obtain ⟨i, hin, hP⟩ := cnt_pos (P := fun i => P i && decide (f i = r)) (n := n) (by
    have h1' : cnt (fun i => P i && decide (f i = r)) n = 1 := h1
    omega)
  simp only [Bool.and_eq_true, decide_eq_true_eq] at hP
  exact ⟨i, hin, hP.1, hP.2⟩
section LINES
variable {T : Tm} {n : Nat}
/-- is a above c? -/
def an (T : Tm) (n a c : Nat) : Bool := ilv T (nI a) n (T 10 c)
theorem ilv_st (h : Iv T n) {d : Nat → Nat} (hd : ∀ c j, c < n → j < n → T 10 c = nI j → d j < d c) (a : Int32) : ∀ (k k' : Nat) (x : Int32), (x = (-5) ∨ ∃ j, j < n ∧ x = nI j ∧ d j < k ∧ d j < k') → ilv T a k x = ilv T a k' x := by
  have hn := iv_n h
  intro k
  induction k with
  | zero =>
    intro k' x hx
    rcases hx with rfl | ⟨j, _, _, h3, _⟩
    · cases k' with
      | zero => rfl
      | succ k' => rw [ilv, ilv, if_pos rfl]
    · omega
  | succ k ih =>
    intro k' x hx
    rcases hx with rfl | ⟨j, hj, rfl, h3, h4⟩
    · cases k' with
      | zero => rw [ilv, ilv, if_pos rfl]
      | succ k' => rw [ilv, ilv, if_pos rfl, if_pos rfl]
    · obtain ⟨k', rfl⟩ : ∃ q, k' = q + 1 := ⟨k' - 1, by omega⟩
      rw [ilv, ilv, if_neg (nI_nem5 (by omega)), if_neg (nI_nem5 (by omega)), cl_nI (by omega)]
      have e := ih k' (T 10 j) (by
        rcases iv_by h j hj with h5 | ⟨j2, h5, h6⟩
        · exact Or.inl h5
        · have := hd j j2 hj h5 h6
          exact Or.inr ⟨j2, h5, h6, by omega, by omega⟩)
      rw [e]
theorem an_none {a c : Nat} (h : T 10 c = (-5)) : an T n a c = false := by
  unfold an
  rw [h]
  cases n with
  | zero => rfl
  | succ n => rw [ilv, if_pos rfl]
theorem an_step (h : Iv T n) {d : Nat → Nat} (h1 : ∀ c, c < n → d c ≤ cnt (nby T) n) (hd : ∀ c j, c < n → j < n → T 10 c = nI j → d j < d c) {a c j : Nat} (ha : a < n) (hc : c < n) (hj : j < n) (e : T 10 c = nI j) : an T n a c = (decide (j = a) || an T n a j) := by
  have hn := iv_n h
  have l1 := hd c j hc hj e
  have l2 := h1 c hc
  have l3 := cnt_le (nby T) n
  unfold an
  rw [e]
  obtain ⟨n', hn'⟩ : ∃ q, n = q + 1 := ⟨n - 1, by omega⟩
  have e1 : ilv T (nI a) n (nI j) = if nI j = nI a then true else ilv T (nI a) n' (T 10 j) := by
    rw [hn', ilv, if_neg (nI_nem5 (by omega)), cl_nI (by omega)]
  have e2 : ilv T (nI a) n' (T 10 j) = ilv T (nI a) n (T 10 j) := ilv_st h hd (nI a) n' n (T 10 j) (by
    rcases iv_by h j hj with h5 | ⟨j2, h5, h6⟩
    · exact Or.inl h5
    · have := hd j j2 hj h5 h6
      exact Or.inr ⟨j2, h5, h6, by omega, by omega⟩)
  rw [e1, e2]
  by_cases hja : j = a
  · rw [if_pos (by rw [hja])]; simp [hja]
  · rw [if_neg (fun e => hja (nI_inj (by omega) (by omega) e))]
    simp [hja]
theorem an_lt (h : Iv T n) {d : Nat → Nat} (h1 : ∀ c, c < n → d c ≤ cnt (nby T) n) (hd : ∀ c j, c < n → j < n → T 10 c = nI j → d j < d c) {a : Nat} (ha : a < n) : ∀ (k c : Nat), c < n → d c ≤ k → an T n a c = true → d a < d c := by
  intro k
  induction k with
  | zero =>
    intro c hc hk he
    rcases iv_by h c hc with e | ⟨j, hj, e⟩
    · rw [an_none e] at he; cases he
    · have := hd c j hc hj e
      omega
  | succ k ih =>
    intro c hc hk he
    rcases iv_by h c hc with e | ⟨j, hj, e⟩
    · rw [an_none e] at he; cases he
    · have l := hd c j hc hj e
      rw [an_step h h1 hd ha hc hj e, Bool.or_eq_true] at he
      rcases he with he | he
      · rw [← of_decide_eq_true he]; exact l
      · have := ih j hj (by omega) he
        omega
theorem an_sum (h : Iv T n) {d : Nat → Nat} (h1 : ∀ c, c < n → d c ≤ cnt (nby T) n) (hd : ∀ c j, c < n → j < n → T 10 c = nI j → d j < d c) {a : Nat} (ha : a < n) : ∀ (k c : Nat), c < n → d c ≤ k → ind (an T n a c) = sm (fun m => if T 10 m = nI a then ind (decide (m = c)) + ind (an T n m c) else 0) n := by
  have hn := iv_n h
  have none_case : ∀ c, c < n → T 10 c = (-5) → ind (an T n a c) = sm (fun m => if T 10 m = nI a then ind (decide (m = c)) + ind (an T n m c) else 0) n := by
    intro c hc e
    rw [an_none e]
    symm
    refine sm_zero (fun m _ => ?_)
    by_cases hm : T 10 m = nI a
    · have hmc : ¬ m = c := fun q => by
        subst q
        rw [e] at hm
        exact nI_nem5 (n := a) (by omega) hm.symm
      rw [if_pos hm, an_none e]
      simp [ind, hmc]
    · rw [if_neg hm]
  intro k
  induction k with
  | zero =>
    intro c hc hk
    rcases iv_by h c hc with e | ⟨j, hj, e⟩
    · exact none_case c hc e
    · have := hd c j hc hj e
      omega
  | succ k ih =>
    intro c hc hk
    rcases iv_by h c hc with e | ⟨j, hj, e⟩
    · exact none_case c hc e
    · have l := hd c j hc hj e
      have I := ih j hj (by omega)
      have s1 : ∀ m, m < n → (if T 10 m = nI a then ind (decide (m = c)) + ind (an T n m c) else 0) = (if T 10 m = nI a then ind (decide (m = c)) else 0) + (if T 10 m = nI a then ind (decide (m = j)) + ind (an T n m j) else 0) := by
        intro m hm
        by_cases hma : T 10 m = nI a
        · rw [if_pos hma, if_pos hma, if_pos hma, an_step h h1 hd hm hc hj e]
          by_cases hmj : j = m
          · subst hmj
            have hx : an T n j j = false := by
              cases q : an T n j j with
              | false => rfl
              | true => have := an_lt h h1 hd hj (d j) j hj (Nat.le_refl _) q; omega
            simp [ind, hx]
          · have hmj' : ¬ m = j := fun e => hmj e.symm
            simp [hmj, hmj']
            simp [ind]
        · rw [if_neg hma, if_neg hma, if_neg hma]
      rw [sm_congr s1, sm_add, ← I]
      have s2 : sm (fun m => if T 10 m = nI a then ind (decide (m = c)) else 0) n = if j = a then 1 else 0 := by
        rw [sm_single hc (fun m _ hne => by
          by_cases hma : T 10 m = nI a
          · simp [hma, hne, ind]
          · simp [hma])]
        by_cases hja : j = a
        · have : T 10 c = nI a := by rw [e, hja]
          simp [this, hja, ind]
        · have : ¬ T 10 c = nI a := fun q => hja (nI_inj (by omega) (by omega) (e.symm.trans q))
          simp [this, hja]
      rw [s2, an_step h h1 hd ha hc hj e]
      by_cases hja : j = a
      · subst hja
        have hx : an T n j j = false := by
          cases q : an T n j j with
          | false => rfl
          | true => have := an_lt h h1 hd hj (d j) j hj (Nat.le_refl _) q; omega
        simp [ind, hx]
      · simp [hja]
/-- the length of a line -/
def ln (T : Tm) (n a : Nat) : Nat := cnt (fun c => an T n a c) n
/-- a line is that of those it smashed and theirs -/
theorem ln_sum (h : Iv T n) {a : Nat} (ha : a < n) : ln T n a = sm (fun m => if T 10 m = nI a then 1 + ln T n m else 0) n := by
  obtain ⟨d, h1, hd⟩ := iv_d h
  unfold ln
  rw [cnt_sm, sm_congr (fun c hc => an_sum h h1 hd ha (d c) c hc (Nat.le_refl _)), sm_swap]
  refine sm_congr (fun m hm => ?_)
  by_cases hma : T 10 m = nI a
  · simp only [hma, if_true]
    rw [sm_add, sm_single hm (fun i _ hne => by
      have : ¬ m = i := fun e => hne e.symm
      simp [ind, this]), cnt_sm]
    simp [ind]
  · simp only [hma, if_false]
    exact sm_zero (fun _ _ => rfl)
theorem ln_heirs (h : Iv T n) {a : Nat} (ha : a < n) : cnt (pHe T (nI a)) n ≤ ln T n a := by
  rw [ln_sum h ha, cnt_sm]
  refine sm_mono (fun i _ => ?_)
  unfold pHe
  by_cases hi : T 10 i = nI a
  · simp [hi, ind]
  · simp [hi, ind]
theorem ln_le (T : Tm) (n a : Nat) : ln T n a ≤ n := cnt_le _ n
/-- those that were smashed by one are as many as those with an heir -/
theorem heirs_all (h : Iv T n) : sm (fun a => cnt (pHe T (nI a)) n) n = cnt (nby T) n := by
  have hn := iv_n h
  rw [sm_congr (fun a _ => cnt_sm (pHe T (nI a)) n), sm_swap, cnt_sm]
  refine sm_congr (fun c hc => ?_)
  rcases iv_by h c hc with e | ⟨j, hj, e⟩
  · rw [sm_zero (fun a ha => by
      have : ¬ ((-5) = nI a) := fun q => nI_nem5 (n := a) (by omega) q.symm
      simp [pHe, e, this, ind])]
    simp [nby, e, ind]
  · rw [sm_single hj (fun a ha hne => by
      have : ¬ nI j = nI a := fun q => hne (nI_inj (by omega) (by omega) q).symm
      simp [pHe, e, this, ind])]
    have h5 : ¬ nI j = (-5) := nI_nem5 (by omega)
    simp [pHe, nby, e, h5, ind]
end LINES
section RANKS
variable {T : Tm} {n : Nat}
def liv (T : Tm) : Nat → Bool := fun c => !decide (T 9 c = 2)
theorem pAh_v {v : Nat → Nat} {T : Tm} {o c : Nat} (ho : T 7 o = nI (v o)) (hc : T 7 c = nI (v c)) (lo : v o < 2 ^ 31) (lc : v c < 2 ^ 31) : pAh T c o = (liv T o && (decide (v c < v o) || (decide (v o = v c) && decide (o < c)))) := by
  unfold pAh liv
  rw [ho, hc]
  have e1 : decide (nI (v o) ≤ nI (v c)) = decide (v o ≤ v c) := by
    rw [decide_eq_decide, Int32.le_iff_toInt_le, nI_toInt lo, nI_toInt lc]
    omega
  have e2 : decide (nI (v o) = nI (v c)) = decide (v o = v c) := by
    rw [decide_eq_decide]
    exact ⟨fun e => nI_inj lo lc e, fun e => by rw [e]⟩
  rw [e1, e2]
  have e3 : (!decide (v o ≤ v c)) = decide (v c < v o) := by
    by_cases h : v o ≤ v c
    · have : ¬ v c < v o := by omega
      simp [h, this]
    · have : v c < v o := by omega
      simp [h, this]
  rw [e3]
/-- how many stand ahead -/
def ah (T : Tm) (n c : Nat) : Nat := cnt (pAh T c) n
theorem ah_lt {v : Nat → Nat} (hv : ∀ c, c < n → T 7 c = nI (v c)) (lv : ∀ c, c < n → v c < 2 ^ 31) {o c : Nat} (ho : o < n) (hc : c < n) (hl : liv T o = true) (hp : v c < v o ∨ (v o = v c ∧ o < c)) : ah T n o < ah T n c := by
  refine cnt_lt (g := o) (fun i hi hq => ?_) ho ?_ ?_
  · rw [pAh_v (hv i hi) (hv o ho) (lv i hi) (lv o ho)] at hq
    rw [pAh_v (hv i hi) (hv c hc) (lv i hi) (lv c hc)]
    simp only [Bool.and_eq_true, Bool.or_eq_true, decide_eq_true_eq] at hq ⊢
    refine ⟨hq.1, ?_⟩
    omega
  · rw [pAh_v (hv o ho) (hv c hc) (lv o ho) (lv c hc), hl]
    simp only [Bool.true_and, Bool.or_eq_true, Bool.and_eq_true, decide_eq_true_eq]
    omega
  · rw [pAh_v (hv o ho) (hv o ho) (lv o ho) (lv o ho)]
    simp
theorem ah_inj {v : Nat → Nat} (hv : ∀ c, c < n → T 7 c = nI (v c)) (lv : ∀ c, c < n → v c < 2 ^ 31) {o c : Nat} (ho : o < n) (hc : c < n) (lo : liv T o = true) (lc : liv T c = true) (he : ah T n o = ah T n c) : o = c := by
  apply Classical.byContradiction
  intro hne
  by_cases h1 : v c < v o ∨ (v o = v c ∧ o < c)
  · have := ah_lt hv lv ho hc lo h1; omega
  · have := ah_lt hv lv hc ho lc (by omega); omega
theorem ah_bd {v : Nat → Nat} (hv : ∀ c, c < n → T 7 c = nI (v c)) (lv : ∀ c, c < n → v c < 2 ^ 31) {c : Nat} (hc : c < n) (lc : liv T c = true) : ah T n c < cnt (liv T) n := by
  refine cnt_lt (g := c) (fun i hi hq => ?_) hc lc ?_
  · rw [pAh_v (hv i hi) (hv c hc) (lv i hi) (lv c hc)] at hq
    simp only [Bool.and_eq_true] at hq
    exact hq.1
  · rw [pAh_v (hv c hc) (hv c hc) (lv c hc) (lv c hc)]
    simp
theorem rank_at {v : Nat → Nat} (hv : ∀ c, c < n → T 7 c = nI (v c)) (lv : ∀ c, c < n → v c < 2 ^ 31) : ∀ r, r < cnt (liv T) n → ∃ c, c < n ∧ liv T c = true ∧ ah T n c = r :=
  pigeon (P := liv T) (f := ah T n) (fun _ hi hP => ah_bd hv lv hi hP) (fun _ _ hi hj a b e => ah_inj hv lv hi hj a b e)
theorem fr_some {P : Nat → Bool} : ∀ (k i : Nat), (∃ c, i ≤ c ∧ c < i + k ∧ P c = true) → ∃ c, i ≤ c ∧ c < i + k ∧ P c = true ∧ fr P k i = nI c := by
  intro k
  induction k with
  | zero => intro i ⟨c, h1, h2, _⟩; omega
  | succ k ih =>
    intro i ⟨c, h1, h2, h3⟩
    rw [fr]
    by_cases hp : P i = true
    · exact ⟨i, Nat.le_refl _, by omega, hp, by rw [if_pos hp]⟩
    · obtain ⟨c', g1, g2, g3, g4⟩ := ih (i + 1) ⟨c, by
        have : c ≠ i := fun e => hp (by rw [← e]; exact h3)
        omega, by omega, h3⟩
      exact ⟨c', by omega, by omega, g3, by rw [if_neg hp]; exact g4⟩
theorem fr_none {P : Nat → Bool} : ∀ (k i : Nat), (∀ c, i ≤ c → c < i + k → P c = false) → fr P k i = (-5) := by
  intro k
  induction k with
  | zero => intro i _; rfl
  | succ k ih =>
    intro i h
    rw [fr, if_neg (by rw [h i (Nat.le_refl _) (by omega)]; decide)]
    exact ih (i + 1) (fun c h1 h2 => h c (by omega) (by omega))
/-- the conker at a rank, and none behind the last -/
theorem ranked_at {v : Nat → Nat} (hn : n ≤ 30) (hv : ∀ c, c < n → T 7 c = nI (v c)) (lv : ∀ c, c < n → v c < 2 ^ 31) {r : Nat} (hr : r < cnt (liv T) n) : ∃ c, c < n ∧ liv T c = true ∧ ah T n c = r ∧ fr (pRk T n (nI r)) n 0 = nI c := by
  obtain ⟨c0, a1, a2, a3⟩ := rank_at hv lv r hr
  have hl := cnt_le (liv T) n
  obtain ⟨c, b1, b2, b3, b4⟩ := fr_some (P := pRk T n (nI r)) n 0 ⟨c0, by omega, by omega, by
    unfold pRk
    have e : cnt (pAh T c0) n = r := a3
    rw [e]
    unfold liv at a2
    rw [a2]
    simp⟩
  unfold pRk at b3
  simp only [Bool.and_eq_true, decide_eq_true_eq] at b3
  have hc : ah T n c ≤ n := cnt_le _ n
  exact ⟨c, by omega, b3.1, nI_inj (by omega) (by omega) b3.2, b4⟩
theorem ranked_none {v : Nat → Nat} (hn : n ≤ 30) (hv : ∀ c, c < n → T 7 c = nI (v c)) (lv : ∀ c, c < n → v c < 2 ^ 31) : fr (pRk T n (nI (cnt (liv T) n))) n 0 = (-5) := by
  refine fr_none n 0 (fun c _ hc => ?_)
  unfold pRk
  cases h1 : (!decide (T 9 c = 2)) with
  | false => rfl
  | true =>
    have h2 := ah_bd hv lv (c := c) (by omega) h1
    have h3 : cnt (pAh T c) n < cnt (liv T) n := h2
    have hl := cnt_le (liv T) n
    rw [Bool.true_and]
    exact decide_eq_false (fun e => by
      have := nI_inj (by omega) (by omega) e
      omega)
end RANKS
