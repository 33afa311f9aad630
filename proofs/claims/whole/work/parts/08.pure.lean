/-! plain functions: what loops compute -/
abbrev tI (f : Nat → Int32) : Nat → Int := fun k => (f k).toInt
/-- filled up to k -/
def fa {α : Type} (v : α) (k : Nat) (f : Nat → α) : Nat → α := fun j => if j < k then v else f j
theorem fa_0 {α : Type} (v : α) (f : Nat → α) : fa v 0 f = f := by
  funext j; simp [fa]
theorem fa_s (v : Int32) (k : Nat) (f : Nat → Int32) : upd (fa v k f) k v = fa v (k + 1) f := by
  funext j
  by_cases h : j = k
  · subst h; simp [upd, fa]
  · by_cases h2 : j < k
    · simp [upd, fa, h, h2, Nat.lt_succ_of_lt h2]
    · have h3 : ¬ j < k + 1 := by omega
      simp [upd, fa, h, h2, h3]
theorem fa_sL (v : Int64) (k : Nat) (f : Nat → Int64) : vp_updL (fa v k f) k v = fa v (k + 1) f := by
  funext j
  by_cases h : j = k
  · subst h; simp [vp_updL, fa]
  · by_cases h2 : j < k
    · simp [vp_updL, fa, h, h2, Nat.lt_succ_of_lt h2]
    · have h3 : ¬ j < k + 1 := by omega
      simp [vp_updL, fa, h, h2, h3]
theorem upd_at (f : Nat → Int32) (k : Nat) (x : Int32) : upd f k x k = x := by simp [upd]
theorem upd_ne {f : Nat → Int32} {k j : Nat} {x : Int32} (h : j ≠ k) : upd f k x j = f j := by simp [upd, h]
/-- 31 h + .. -/
def dgF (h : Int64) (f : Nat → Int32) : Nat → Int64
  | 0 => h
  | k + 1 => 31 * dgF h f k + (f k).toInt64
/-- the place of the least of i .. i + d, the first of several -/
def lsF (g : Nat → Int) (i : Nat) : Nat → Nat
  | 0 => i
  | d + 1 => if g (i + d + 1) < g (lsF g i d) then i + d + 1 else lsF g i d
theorem lsF_in (g : Nat → Int) (i : Nat) : ∀ d, i ≤ lsF g i d ∧ lsF g i d ≤ i + d
  | 0 => ⟨Nat.le_refl _, Nat.le_refl _⟩
  | d + 1 => by
    have ih := lsF_in g i d
    unfold lsF
    split <;> omega
/-- nearest place ahead of k whose item is no more than v; -1 -/
def lfF (g : Nat → Int) (v : Int) : Nat → Int
  | 0 => -1
  | k + 1 => if v < g k then lfF g v k else (k : Int)
theorem lfF_in (g : Nat → Int) (v : Int) : ∀ k, -1 ≤ lfF g v k ∧ lfF g v k < k
  | 0 => by simp [lfF]
  | k + 1 => by
    have ih := lfF_in g v k
    unfold lfF
    split <;> omega
/-- nearest place from k on whose item is less than v; k + d -/
def rtF (g : Nat → Int) (v : Int) : Nat → Nat → Nat
  | 0, k => k
  | d + 1, k => if v ≤ g k then rtF g v d (k + 1) else k
theorem rtF_in (g : Nat → Int) (v : Int) : ∀ d k, k ≤ rtF g v d k ∧ rtF g v d k ≤ k + d
  | 0, k => ⟨Nat.le_refl _, Nat.le_refl _⟩
  | d + 1, k => by
    have ih := rtF_in g v d (k + 1)
    unfold rtF
    split <;> omega
abbrev lfE (g : Nat → Int) (i : Nat) : Int := lfF g (g i) i
abbrev rtE (g : Nat → Int) (n i : Nat) : Nat := rtF g (g i) (n - (i + 1)) (i + 1)
def ownF (g : Nat → Int) (n i : Nat) : Int := ((i : Int) - lfE g i) * ((rtE g n i : Int) - i)
