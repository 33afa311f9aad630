theorem cI_ext {s : Nat → Int32} {c : Nat → Nat} : (∀ j, j < 24 → s j = cI c j) → ∀ j, j < 24 → s j = cI c j := fun h => h
/-- rows written up to k -/
def wrU (q : Nat → Int) (f : Nat → Int32) (k : Nat) : Nat → Int32 := fun j => if j < k then iI (q j) else f j
theorem wrU_0 (q : Nat → Int) (f : Nat → Int32) : wrU q f 0 = f := by funext j; simp [wrU]
theorem wrU_s (q : Nat → Int) (f : Nat → Int32) (k : Nat) : upd (wrU q f k) k (iI (q k)) = wrU q f (k + 1) := by
  funext j
  unfold upd wrU
  by_cases h : j = k
  · subst h; simp
  · by_cases h2 : j < k
    · simp [h, h2, Nat.lt_succ_of_lt h2]
    · have h3 : ¬ j < k + 1 := by omega
      simp [h, h2, h3]
theorem wrU_in {q : Nat → Int} {f : Nat → Int32} {k j : Nat} (h : j < k) : wrU q f k j = iI (q j) := if_pos h
def fxA (p : Nat → Int) (n r k : Nat) : Nat → Int32 := fun v => iI (fxF p n r v k)
theorem fxA_y {p : Nat → Int} {n r k a : Nat} (ha : (tS p n r k).1 = a) (h : fxF p n r a k = -1) : upd (fxA p n r k) a (iI (k : Int)) = fxA p n r (k + 1) := by
  funext v
  unfold upd fxA
  by_cases hv : v = a
  · subst hv
    rw [if_pos rfl]
    exact congrArg iI (if_pos ⟨h, ha⟩).symm
  · rw [if_neg hv]
    refine congrArg iI (Eq.symm (if_neg (fun z => hv ?_)))
    have := z.2.symm.trans ha
    omega
theorem fxA_n {p : Nat → Int} {n r k a : Nat} (ha : (tS p n r k).1 = a) (h : ¬ fxF p n r a k = -1) : fxA p n r k = fxA p n r (k + 1) := by
  funext v
  unfold fxA
  refine congrArg iI (Eq.symm (if_neg (fun z => h ?_)))
  have e : v = a := by have := z.2.symm.trans ha; omega
  rw [← e]
  exact z.1
def famOK (p : Nat → Int) (n : Nat) (pa de sz fi mt tf : Nat → Int32) : Prop := (∀ k, k < n → (pa k).toInt = p k) ∧ (∀ k, k < n → de k = iI (srF p n k : Nat)) ∧ (∀ k, k < n → sz k = iI (csN p (srF p n) n k : Nat)) ∧ (∀ k, k < n → fi k = iI (fxF p n (roF p (n - 1) 0) k (2 * n - 1))) ∧ (∀ j, j < 2 * n - 1 → mt j = iI (tS p n (roF p (n - 1) 0) j).1) ∧ (∀ j, j < 2 * n - 1 → tf j = iI (srF p n (tS p n (roF p (n - 1) 0) j).1.toNat : Nat))
def tourOK (p : Nat → Int) (n r : Nat) : Prop := ∀ k, k < 2 * n - 1 → (0 ≤ (tS p n r k).1 ∧ (tS p n r k).1 < n) ∧ (-1 ≤ (tS p n r k).2 ∧ (tS p n r k).2 < n)
