/-! trees told by parents: p k is the parent of k, -1 at the root -/
/-- an array's row may be told by another function that is the same in range -/
theorem j_ext {E : jD} {Y : jY} {Z : jZ} {k n pc : Nat} {lv : List (Nat × Value)} {st : List Value} {M : va_W} (q0 : Nat) {a N : Nat} {f : Nat → Int32} (f' : Nat → Int32) (he : M[q0]? = some (a, jA E N f)) (h : ∀ j, j < N → f j = f' j) (kk : J E Y Z k n pc lv st (M.set q0 (a, jA E N f'))) : J E Y Z k n pc lv st M := by
  intro p l e s m args below meth c A C H locs ls hl hP hD hS
  have hcell : vp_cell (E.2 0) (N, .inl f) = vp_cell (E.2 0) (N, .inl f') := by
    rw [vp_cell_i, vp_cell_i]
    unfold arrV
    congr 1
    apply Array.ext
    · simp
    · intro i h1 h2
      simp at h1
      simp [h i h1]
  have hP2 : va_P E.1 vwCl (M.set q0 (a, jA E N f')) H := hP.set hD he (show H[a]? = some (vp_cell (E.2 0) (N, .inl f')) by rw [← hcell]; exact hP q0 _ he) (fun _ _ => rfl)
  exact kk p l e s m args below meth c A C H locs ls hl hP2 (hD.set he) hS
def inT (p : Nat → Int) (n : Nat) : Prop := ∀ k, k < n → p k = -1 ∨ (0 ≤ p k ∧ p k < n)
def srF (p : Nat → Int) : Nat → Nat → Nat
  | 0, _ => 0
  | d + 1, u => if p u = -1 then 0 else srF p d (p u).toNat + 1
theorem srF_le (p : Nat → Int) : ∀ d u, srF p d u ≤ d
  | 0, _ => Nat.le_refl _
  | d + 1, u => by
    have := srF_le p d (p u).toNat
    unfold srF
    split <;> omega
def rcF (p : Nat → Int) : Nat → Nat
  | 0 => 0
  | k + 1 => rcF p k + (if p k = -1 then 1 else 0)
theorem rcF_le (p : Nat → Int) : ∀ k, rcF p k ≤ k
  | 0 => Nat.le_refl _
  | k + 1 => by
    have := rcF_le p k
    unfold rcF
    split <;> omega
/-- the ints of a row tell a tree -/
def toldP (p : Nat → Int) (n : Nat) : Prop := (∀ k, k < n → p k = -1 ∨ (0 ≤ p k ∧ p k < n)) ∧ rcF p n = 1 ∧ ∀ k, k < n → srF p n k < n
def upF (p : Nat → Int) : Nat → Nat → Nat
  | 0, u => u
  | k + 1, u => upF p k (p u).toNat
theorem up_in {p : Nat → Int} {n : Nat} (hp : inT p n) : ∀ (d u : Nat), u < n → ∀ j, j ≤ srF p d u → upF p j u < n ∧ (j < srF p d u → ¬ p (upF p j u) = -1)
  | 0, u, hu, j, hj => by
    have : j = 0 := by simpa [srF] using hj
    subst this
    exact ⟨hu, fun h => by simp [srF] at h⟩
  | d + 1, u, hu, j, hj => by
    by_cases h : p u = -1
    · have e : srF p (d + 1) u = 0 := if_pos h
      rw [e] at hj
      have : j = 0 := by omega
      subst this
      rw [e]
      exact ⟨hu, fun h => by omega⟩
    · have e : srF p (d + 1) u = srF p d (p u).toNat + 1 := if_neg h
      have hpu := hp u hu
      cases j with
      | zero => exact ⟨hu, fun _ => h⟩
      | succ j =>
        rw [e] at hj ⊢
        obtain ⟨h1, h2⟩ := up_in hp d (p u).toNat (by omega) j (by omega)
        exact ⟨h1, fun h3 => h2 (by omega)⟩
/-- one more for each on the way up -/
def ipN (p : Nat → Int) : Nat → Nat → (Nat → Nat) → (Nat → Nat)
  | 0, _, c => c
  | k + 1, u, c => ipN p k (p u).toNat (fun j => if j = u then c j + 1 else c j)
def csN (p : Nat → Int) (dep : Nat → Nat) : Nat → (Nat → Nat)
  | 0 => fun _ => 0
  | u + 1 => ipN p (dep u + 1) u (csN p dep u)
def cI (c : Nat → Nat) : Nat → Int32 := fun j => iI (c j : Nat)
theorem cI_upd (c : Nat → Nat) (u : Nat) : upd (cI c) u (iI ((c u : Nat) + 1 : Int)) = cI (fun j => if j = u then c j + 1 else c j) := by
  funext j
  unfold upd cI
  by_cases h : j = u
  · subst h; simp
  · simp [h]
/-- the first son from k on -/
def sbF (p : Nat → Int) (u : Int) : Nat → Nat → Nat
  | 0, k => k
  | d + 1, k => if p k = u then k else sbF p u d (k + 1)
theorem sbF_in (p : Nat → Int) (u : Int) : ∀ d k, k ≤ sbF p u d k ∧ sbF p u d k ≤ k + d
  | 0, k => ⟨Nat.le_refl _, Nat.le_refl _⟩
  | d + 1, k => by
    have ih := sbF_in p u d (k + 1)
    unfold sbF
    split <;> omega
def roF (p : Nat → Int) : Nat → Nat → Nat
  | 0, k => k
  | d + 1, k => if p k = -1 then k else roF p d (k + 1)
theorem roF_in (p : Nat → Int) : ∀ d k, k ≤ roF p d k ∧ roF p d k ≤ k + d
  | 0, k => ⟨Nat.le_refl _, Nat.le_refl _⟩
  | d + 1, k => by
    have ih := roF_in p d (k + 1)
    unfold roF
    split <;> omega
/-- the son behind sd -/
def soF (p : Nat → Int) (n : Nat) (u sd : Int) : Nat := sbF p u (n - (sd + 1).toNat) (sd + 1).toNat
/-- the tour: where it is at step k, and which son was done last -/
def tS (p : Nat → Int) (n : Nat) (r : Nat) : Nat → Int × Int
  | 0 => ((r : Int), -1)
  | k + 1 => if soF p n (tS p n r k).1 (tS p n r k).2 < n then ((soF p n (tS p n r k).1 (tS p n r k).2 : Nat), -1) else (p (tS p n r k).1.toNat, (tS p n r k).1)
/-- where a node is met first -/
def fxF (p : Nat → Int) (n r : Nat) (v : Nat) : Nat → Int
  | 0 => -1
  | k + 1 => if fxF p n r v k = -1 ∧ (tS p n r k).1 = v then (k : Int) else fxF p n r v k
theorem fxF_in (p : Nat → Int) (n r v : Nat) : ∀ k, -1 ≤ fxF p n r v k ∧ fxF p n r v k < k
  | 0 => by simp [fxF]
  | k + 1 => by
    have ih := fxF_in p n r v k
    unfold fxF
    split <;> omega
