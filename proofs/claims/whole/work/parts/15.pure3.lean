/-! how large a shape is -/
theorem popF_w (v : Int) : ∀ (P : List Int) (m : Nat), ((popF v P m).2 + 1) * 2 ^ (popF v P m).1.length ≤ (m + 1) * 2 ^ P.length
  | [], m => Nat.le_refl _
  | t :: P, m => by
    unfold popF
    split
    · refine Nat.le_trans (popF_w v P (2 * m)) ?_
      rw [List.length_cons, Nat.pow_succ, ← Nat.mul_assoc, Nat.mul_right_comm]
      exact Nat.mul_le_mul_right _ (by omega)
    · exact Nat.le_refl _
theorem shG_w (g : Nat → Int) (a : Nat) : ∀ c, ((shG g a c).2 + 1) * 2 ^ (shG g a c).1.length ≤ 2 ^ (2 * c + 1)
  | 0 => Nat.le_refl _
  | c + 1 => by
    have h1 := shG_w g a c
    have h2 := popF_w (g (a + c)) (shG g a c).1 (shG g a c).2
    have h3 := Nat.le_trans h2 h1
    show (2 * (popF (g (a + c)) (shG g a c).1 (shG g a c).2).2 + 1 + 1) * 2 ^ ((popF (g (a + c)) (shG g a c).1 (shG g a c).2).1.length + 1) ≤ _
    generalize (popF (g (a + c)) (shG g a c).1 (shG g a c).2).2 = m at h3 ⊢
    generalize (popF (g (a + c)) (shG g a c).1 (shG g a c).2).1.length = k at h3 ⊢
    have e1 : (2 * m + 1 + 1) * 2 ^ (k + 1) = 4 * ((m + 1) * 2 ^ k) := by
      rw [Nat.pow_succ, show 2 * m + 1 + 1 = 2 * (m + 1) by omega, Nat.mul_comm (2 ^ k) 2, ← Nat.mul_assoc, Nat.mul_right_comm 2 (m + 1) 2, ← Nat.mul_assoc]
    have e2 : 2 ^ (2 * (c + 1) + 1) = 4 * 2 ^ (2 * c + 1) := by
      rw [show 2 * (c + 1) + 1 = (2 * c + 1) + 1 + 1 by omega, Nat.pow_succ, Nat.pow_succ]; omega
    rw [e1, e2]
    exact Nat.mul_le_mul_left 4 h3
theorem shG_lt (g : Nat → Int) (a : Nat) {c : Nat} (hc : c ≤ 6) : (shG g a c).2 < 4096 := by
  cases c with
  | zero => show 1 < 4096; decide
  | succ c =>
    have h := shG_w g a (c + 1)
    have e : (shG g a (c + 1)).1.length = (popF (g (a + c)) (shG g a c).1 (shG g a c).2).1.length + 1 := rfl
    rw [e, Nat.pow_succ, ← Nat.mul_assoc] at h
    have h2 : 2 ^ (2 * (c + 1) + 1) ≤ 2 ^ 13 := Nat.pow_le_pow_right (by decide) (by omega)
    have h3 : (shG g a (c + 1)).2 + 1 ≤ ((shG g a (c + 1)).2 + 1) * 2 ^ (popF (g (a + c)) (shG g a c).1 (shG g a c).2).1.length := Nat.le_mul_of_pos_right _ (Nat.pow_pos (by decide))
    omega
theorem shB_lt (g : Nat → Int) (n : Nat) {w : Nat} (b : Nat) (hw : w ≤ 6) : shB g n w b < 4096 := shG_lt g _ (by omega)
/-! blocks -/
def nB (n w : Nat) : Nat := (n + w - 1) / w
theorem nB_in {n w b : Nat} (hw : 1 ≤ w) (hb : b < nB n w) : b * w < n := by
  unfold nB at hb
  have h1 : (b + 1) * w ≤ (n + w - 1) / w * w := Nat.mul_le_mul_right w hb
  have h2 := Nat.div_mul_le_self (n + w - 1) w
  rw [Nat.succ_mul] at h1
  omega
theorem nB_le {n w : Nat} (hw : 1 ≤ w) : nB n w ≤ n := by
  unfold nB
  by_cases hn : n = 0
  · subst hn
    rw [Nat.div_eq_of_lt (by omega)]
    exact Nat.le_refl _
  · refine Nat.div_le_of_le_mul ?_
    have h : n + w ≤ w * n + 1 := by
      obtain ⟨a, rfl⟩ : ∃ a, n = a + 1 := ⟨n - 1, by omega⟩
      obtain ⟨c, rfl⟩ : ∃ c, w = c + 1 := ⟨w - 1, by omega⟩
      rw [Nat.succ_mul, Nat.mul_succ]
      omega
    omega
theorem nB_div {n w i : Nat} (hw : 1 ≤ w) (hi : i < n) : i / w < nB n w := by
  unfold nB
  rw [Nat.lt_div_iff_mul_lt (by omega)]
  have := Nat.div_mul_le_self i w
  omega
/-! sets -/
def inW (w : Nat → Int64) (s : Nat) : Nat → Int64 := if wB w s = true then w else incW w s
def inM (w : Nat → Int64) (m : Int) (s : Nat) : Int := if wB w s = true then m else m + 1
/-- all blocks' shapes, put into an empty set -/
def inB (g : Nat → Int) (n wd : Nat) (w : Nat → Int64) : Nat → (Nat → Int64) × Int
  | 0 => (w, 0)
  | b + 1 => (inW (inB g n wd w b).1 (shB g n wd b), inM (inB g n wd w b).1 (inB g n wd w b).2 (shB g n wd b))
def shU (sh : Nat → Int32) (g : Nat → Int) (n wd k : Nat) : Nat → Int32 := fun j => if j < k then iI (shB g n wd j : Nat) else sh j
theorem shU_0 (sh : Nat → Int32) (g : Nat → Int) (n wd : Nat) : shU sh g n wd 0 = sh := by funext j; simp [shU]
theorem shU_s (sh : Nat → Int32) (g : Nat → Int) (n wd k : Nat) : upd (shU sh g n wd k) k (iI (shB g n wd k : Nat)) = shU sh g n wd (k + 1) := by
  funext j
  unfold upd shU
  by_cases h : j = k
  · subst h; simp
  · by_cases h2 : j < k
    · simp [h, h2, Nat.lt_succ_of_lt h2]
    · have h3 : ¬ j < k + 1 := by omega
      simp [h, h2, h3]
theorem p2x (r d : Nat) : 2 * r * 2 ^ d = r * 2 ^ (d + 1) := by
  rw [Nat.pow_succ, Nat.mul_comm (2 ^ d) 2, ← Nat.mul_assoc, Nat.mul_comm r 2]
theorem lvF_big {b r : Nat} (h : b < r) : ∀ d, lvF b d r = 0
  | 0 => rfl
  | d + 1 => if_pos h
theorem enF_big {b r : Nat} (h : b < r) : ∀ d, enF b d r = 0
  | 0 => rfl
  | d + 1 => if_pos h
theorem lvF_le (b : Nat) : ∀ d r, lvF b d r ≤ d
  | 0, _ => Nat.le_refl _
  | d + 1, r => by
    have := lvF_le b d (2 * r)
    unfold lvF
    split <;> omega
