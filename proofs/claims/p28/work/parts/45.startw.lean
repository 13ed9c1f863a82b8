/-! THE START: the constructors' world as a memory -/
def MC0 : Mm := fun k => match k with
  | 0 => fun _ _ => 0
  | 9 => fun _ _ => 0
  | 10 => fun _ _ => 0
  | 11 => fun _ _ => 0
  | 12 => fun a => match a with
    | 1 => fun j => nI (4 + j)
    | _ => fun _ => 0
  | _ => fun a => match a with
    | 1 => s6
    | _ => fun _ => 0
def thC (h : Nat) (b1 b2 b3 : Nat → Nat) (hH qS : Nat) (b4 b5 b6 b7 b8 : Nat → Nat) (hS sS hD hR rR : Nat) : Nat → Nat → Nat := fun k => match k with
  | 0 => fun _ => h
  | 1 => b1
  | 2 => b2
  | 3 => b3
  | 4 => b4
  | 5 => b5
  | 6 => b6
  | 7 => b7
  | 8 => b8
  | 9 => fun a => match a with
    | 0 => hS
    | _ => sS
  | 10 => fun _ => hD
  | 11 => fun a => match a with
    | 0 => hR
    | _ => rR
  | _ => fun a => match a with
    | 0 => hH
    | _ => qS
def clK (cA cC cR : ClassId) : Nat → ClassId := fun k => match k with
  | 0 => cA
  | 1 => cC
  | _ => cR
theorem va_P_swap {D : va_G} {ws : va_W} {H : Heap} {k a : Nat} {e e' : va_E} (h : va_P D vwCl (ws.set k (a, e)) H) (hk : ws[k]? = some (a, e')) (he : va_at D vwCl (a, e) H → va_at D vwCl (a, e') H) : va_P D vwCl ws H := by
  intro i q hi
  by_cases hik : i = k
  · subst hik
    rw [hk] at hi
    cases hi
    exact he (h i (a, e) (List.getElem?_set_self (List.getElem?_eq_some_iff.mp hk).1))
  · exact h i q (by rw [List.getElem?_set_ne (Ne.symm hik)]; exact hi)
theorem va_D_swap {A : Nat → Prop} {ws : va_W} {k a : Nat} {e e' : va_E} (h : va_D A (ws.set k (a, e))) (hk : ws[k]? = some (a, e')) : va_D A ws := by
  have key : ∀ (i : Nat) (q : Nat × va_E), ws[i]? = some q → ∃ q', (ws.set k (a, e))[i]? = some q' ∧ q'.1 = q.1 := by
    intro i q hi
    by_cases hik : i = k
    · subst hik
      rw [hk] at hi
      cases hi
      exact ⟨(a, e), List.getElem?_set_self (List.getElem?_eq_some_iff.mp hk).1, rfl⟩
    · exact ⟨q, by rw [List.getElem?_set_ne (Ne.symm hik)]; exact hi, rfl⟩
  refine ⟨fun i j p q hi hj he => ?_, fun i q hi => ?_⟩
  · obtain ⟨p', h1, h2⟩ := key i p hi
    obtain ⟨q', h3, h4⟩ := key j q hj
    exact h.1 i j p' q' h1 h3 (by rw [h2, h4]; exact he)
  · obtain ⟨q', h1, h2⟩ := key i q hi
    rw [← h2]
    exact h.2 i q' h1
def aL (s : State) : Nat → Prop := fun q => s.heap.size ≤ q
section STARTW
variable {D : va_G} {A : Nat → Prop} {H : Heap} {cA cC cR : ClassId} {h : Nat} {b1 b2 b3 : Nat → Nat} {hH qS : Nat} {b4 b5 b6 b7 b8 : Nat → Nat} {hS sS hD hR rR : Nat}
abbrev gX (b4 b5 b6 b7 b8 : Nat → Nat) : Nat → Option Nat := va_up (va_up (va_up (va_up (va_up (fun _ => none) 0 (some (b4 0))) 1 (some (b5 0))) 2 (some (b6 0))) 3 (some (b7 0))) 4 (some (b8 0))
def ωC (D : va_G) (cA cC cR : ClassId) (h : Nat) (b1 b2 b3 : Nat → Nat) (hH qS : Nat) (b4 b5 b6 b7 b8 : Nat → Nat) (hS sS hD hR rR : Nat) : Wd := (D, clK cA cC cR, thC h b1 b2 b3 hH qS b4 b5 b6 b7 b8 hS sS hD hR rR)
set_option maxRecDepth 100000 in
set_option maxHeartbeats 4000000 in
theorem st_P (hP : va_P D vwCl (gamB cA cC cR h b1 b2 b3 hH qS b4 b5 b6 b7 b8 hS sS hD hR rR) H) : va_P D vwCl (wW (ωC D cA cC cR h b1 b2 b3 hH qS b4 b5 b6 b7 b8 hS sS hD hR rR) LC MC0) H := by
  refine va_P_swap (k := 7) (a := qS) (e := .inl (cR, 5, .inr (.inr (.inr (.inr (gX b4 b5 b6 b7 b8)))))) (hP.sub [0, 91, 92, 93, 94, 95, 34, 35, 1, 2, 3, 4, 5, 6, 7, 8, 9, 10, 11, 12, 13, 14, 15, 16, 17, 18, 19, 20, 21, 22, 23, 24, 25, 26, 27, 28, 29, 30, 31, 32, 33, 36, 37, 38, 39, 40, 41, 42, 43, 44, 45, 46, 47, 48, 49, 50, 51, 52, 53, 54, 55, 56, 57, 58, 59, 60, 61, 62, 63, 64, 65, 66, 67, 68, 69, 70, 71, 72, 73, 74, 75, 76, 77, 78, 79, 80, 81, 82, 83, 84, 85, 86, 87, 88, 89, 90] rfl) rfl (fun hat => ?_)
  have e : vp_cell cR (5, .inr (.inr (.inr (.inr (gX b4 b5 b6 b7 b8))))) = vp_cell cR (5, .inr (.inr (.inr (.inr (fun j => some (th (ωC D cA cC cR h b1 b2 b3 hH qS b4 b5 b6 b7 b8 hS sS hD hR rR) (MC0 12 1 j).toNatClampNeg 0)))))) := by
    rw [vp_cell_q, vp_cell_q]
    unfold arrV
    congr 1
  have hat2 : H[qS]? = some (vp_cell cR (5, .inr (.inr (.inr (.inr (gX b4 b5 b6 b7 b8)))))) := hat
  rw [e] at hat2
  exact hat2
set_option maxRecDepth 100000 in
set_option maxHeartbeats 4000000 in
theorem st_D (hDD : va_D A (gamB cA cC cR h b1 b2 b3 hH qS b4 b5 b6 b7 b8 hS sS hD hR rR)) : va_D A (wW (ωC D cA cC cR h b1 b2 b3 hH qS b4 b5 b6 b7 b8 hS sS hD hR rR) LC MC0) := by
  refine va_D_swap (k := 7) (a := qS) (e := .inl (cR, 5, .inr (.inr (.inr (.inr (gX b4 b5 b6 b7 b8)))))) (hDD.sub [0, 91, 92, 93, 94, 95, 34, 35, 1, 2, 3, 4, 5, 6, 7, 8, 9, 10, 11, 12, 13, 14, 15, 16, 17, 18, 19, 20, 21, 22, 23, 24, 25, 26, 27, 28, 29, 30, 31, 32, 33, 36, 37, 38, 39, 40, 41, 42, 43, 44, 45, 46, 47, 48, 49, 50, 51, 52, 53, 54, 55, 56, 57, 58, 59, 60, 61, 62, 63, 64, 65, 66, 67, 68, 69, 70, 71, 72, 73, 74, 75, 76, 77, 78, 79, 80, 81, 82, 83, 84, 85, 86, 87, 88, 89, 90] (by decide +kernel) rfl) rfl
end STARTW
theorem s6_lo : ∀ p, p < 6 → s6 p = nI 3 := by decide +kernel
theorem s6_hi {p : Nat} (h : 6 ≤ p) : s6 p = 0 := by
  have h0 : p ≠ 0 := by omega
  have h1 : p ≠ 1 := by omega
  have h2 : p ≠ 2 := by omega
  have h3 : p ≠ 3 := by omega
  have h4 : p ≠ 4 := by omega
  have h5 : p ≠ 5 := by omega
  unfold s6
  simp [upd, h0, h1, h2, h3, h4, h5]
theorem st_jk : Jk (MC0 1) := by
  intro q c h
  by_cases hq : q = 1
  · subst hq
    exact s6_hi (by unfold rng at h; omega)
  · match q, hq with
    | 0, _ => rfl
    | 1, hq => exact absurd rfl hq
    | q + 2, _ => rfl
theorem st_St : St (MC0 1) 0 0 := by
  refine ⟨⟨by decide, rfl, fun p hp => ⟨3, by decide, s6_lo p hp⟩, fun c hc => by omega, fun c hc => by omega, fun c hc => by omega, fun c hc => by omega, ⟨fun _ => 0, 0, fun c hc => by omega, rfl, rfl⟩, fun _ => 0, fun c hc => by omega, fun c j hc => by omega⟩, fun c hc => by omega, st_jk, rfl⟩
theorem st_Hi : Hi MC0 0 := ⟨by decide, rfl, fun j => 4 + j, fun j hj => ⟨rfl, Nat.le_add_right 4 j, Nat.add_le_add_left (Nat.le_of_lt_succ hj) 4⟩⟩
