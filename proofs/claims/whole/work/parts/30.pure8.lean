theorem up_root {p : Nat → Int} {n : Nat} (hp : inT p n) : ∀ (d u : Nat), u < n → srF p d u < d → p (upF p (srF p d u) u) = -1
  | 0, _, _, h => absurd h (Nat.not_lt_zero _)
  | d + 1, u, hu, h => by
    by_cases hq : p u = -1
    · have e : srF p (d + 1) u = 0 := if_pos hq
      rw [e]
      exact hq
    · have e : srF p (d + 1) u = srF p d (p u).toNat + 1 := if_neg hq
      rw [e] at h ⊢
      have := hp u hu
      exact up_root hp d (p u).toNat (by omega) (by omega)
def isB (p : Nat → Int) (n k u : Nat) : Prop := srF p n u ≤ srF p n k ∧ upF p (srF p n k - srF p n u) k = u
def beF (p : Nat → Int) (n u : Nat) : Nat → Nat
  | 0 => 0
  | k + 1 => beF p n u k + (if srF p n u ≤ srF p n k ∧ upF p (srF p n k - srF p n u) k = u then 1 else 0)
theorem beF_le (p : Nat → Int) (n u : Nat) : ∀ k, beF p n u k ≤ k
  | 0 => Nat.le_refl _
  | k + 1 => by
    have := beF_le p n u k
    unfold beF
    split <;> omega
/-- of elder brothers, two for each below -/
def brF (p : Nat → Int) (n t : Nat) : Nat → Int
  | 0 => 0
  | k + 1 => brF p n t k + (if p k = p t then 2 * (beF p n k n : Int) else 0)
def fmF (p : Nat → Int) (n : Nat) : Nat → Nat → Int → Int
  | 0, _, z => z
  | d + 1, t, z => if p t = -1 then z else fmF p n d (p t).toNat (z + brF p n t t)
def mdF (p : Nat → Int) (n u v : Nat) : Nat → Nat
  | 0 => 0
  | d + 1 => if upF p (srF p n u - (d + 1)) u = upF p (srF p n v - (d + 1)) v then d + 1 else mdF p n u v d
theorem mdF_le (p : Nat → Int) (n u v : Nat) : ∀ d, mdF p n u v d ≤ d
  | 0 => Nat.le_refl _
  | d + 1 => by
    have := mdF_le p n u v d
    unfold mdF
    split <;> omega
def wkF (p : Nat → Int) : Nat → Int → Int
  | 0, a => a
  | d + 1, a => if a = -1 then -1 else wkF p d (p a.toNat)
theorem wkF_m1 (p : Nat → Int) : ∀ d, wkF p d (-1) = -1
  | 0 => rfl
  | d + 1 => if_pos rfl
theorem wkF_sr {p : Nat → Int} {n : Nat} (hp : inT p n) : ∀ (d u : Nat), u < n → (wkF p d (u : Int) = -1 ↔ srF p d u < d)
  | 0, u, _ => by
    show ((u : Int) = -1 ↔ _)
    exact ⟨fun h => by omega, fun h => absurd h (Nat.not_lt_zero _)⟩
  | d + 1, u, hu => by
    have e1 : wkF p (d + 1) (u : Int) = wkF p d (p u) := if_neg (by omega)
    rw [e1]
    by_cases hq : p u = -1
    · have e : srF p (d + 1) u = 0 := if_pos hq
      rw [e, hq, wkF_m1]
      exact ⟨fun _ => Nat.succ_pos _, fun _ => rfl⟩
    · have e : srF p (d + 1) u = srF p d (p u).toNat + 1 := if_neg hq
      have h2 := hp u hu
      have ih := wkF_sr hp d (p u).toNat (by omega)
      rw [show (((p u).toNat : Nat) : Int) = p u by omega] at ih
      rw [e, ih]
      omega
