/-! the index's functions -/
theorem lfE_in (g : Nat → Int) (i : Nat) : -1 ≤ lfE g i ∧ lfE g i < i := lfF_in g (g i) i
theorem rtE_in (g : Nat → Int) {n i : Nat} (h : i < n) : i + 1 ≤ rtE g n i ∧ rtE g n i ≤ n := by
  have h2 := rtF_in g (g i) (n - (i + 1)) (i + 1)
  unfold rtE
  omega
def pick (g : Nat → Int) (n : Nat) (lf : Int) (rt : Nat) : Int := if n ≤ rt then (if lf < 0 then -9 else lf) else if lf < 0 then (rt : Int) else if g rt < g lf.toNat then lf else (rt : Int)
def paF (g : Nat → Int) (n i : Nat) : Int := pick g n (lfE g i) (rtE g n i)
theorem paF_in (g : Nat → Int) {n i : Nat} (h : i < n) : paF g n i = -9 ∨ (0 ≤ paF g n i ∧ paF g n i < n) := by
  have h1 := lfE_in g i
  have h2 := rtE_in g h
  unfold paF pick
  split
  · split <;> omega
  · split
    · omega
    · split <;> omega
/-- steps up to the one above all -/
def dpF (g : Nat → Int) (n : Nat) : Nat → Int → Nat
  | 0, _ => 0
  | d + 1, p => if p = -9 then 0 else dpF g n d (paF g n p.toNat) + 1
theorem dpF_le (g : Nat → Int) (n : Nat) : ∀ d p, dpF g n d p ≤ d
  | 0, _ => Nat.le_refl _
  | d + 1, p => by
    have := dpF_le g n d (paF g n p.toNat)
    unfold dpF
    split <;> omega
def anF (g : Nat → Int) (n : Nat) : Nat → Int → Int
  | 0, p => p
  | d + 1, p => if p = -9 then p else anF g n d (paF g n p.toNat)
/-- steps to the left edge, within a run -/
def stF (g : Nat → Int) (a p : Nat) : Int := (p : Int) - max ((a : Int) - 1) (lfE g p)
def rkC (g : Nat → Int) (p k : Nat) : Prop := g k < g p ∨ (k < p ∧ g k = g p)
def rkF (g : Nat → Int) (p a : Nat) : Nat → Int
  | 0 => 0
  | c + 1 => rkF g p a c + (if g (a + c) < g p ∨ (a + c < p ∧ g (a + c) = g p) then 1 else 0)
theorem rkF_in (g : Nat → Int) (p a : Nat) : ∀ c, 0 ≤ rkF g p a c ∧ rkF g p a c ≤ c
  | 0 => by simp [rkF]
  | c + 1 => by
    have ih := rkF_in g p a c
    unfold rkF
    split <;> omega
/-- from p on, the first of rank k, or p + d -/
def ktF (g : Nat → Int) (a w : Nat) (k : Int) : Nat → Nat → Nat
  | 0, p => p
  | d + 1, p => if rkF g p a w = k then p else ktF g a w k d (p + 1)
theorem ktF_in (g : Nat → Int) (a w : Nat) (k : Int) : ∀ d p, p ≤ ktF g a w k d p ∧ ktF g a w k d p ≤ p + d
  | 0, p => ⟨Nat.le_refl _, Nat.le_refl _⟩
  | d + 1, p => by
    have ih := ktF_in g a w k d (p + 1)
    unfold ktF
    split <;> omega
/-! shapes: a pile, its top first -/
def popF (v : Int) : List Int → Nat → List Int × Nat
  | [], m => ([], m)
  | t :: P, m => if v < t then popF v P (2 * m) else (t :: P, m)
theorem popF_len (v : Int) : ∀ P m, (popF v P m).1.length ≤ P.length
  | [], _ => Nat.le_refl _
  | t :: P, m => by
    unfold popF
    split
    · exact Nat.le_succ_of_le (popF_len v P (2 * m))
    · exact Nat.le_refl _
def shG (g : Nat → Int) (a : Nat) : Nat → List Int × Nat
  | 0 => ([], 1)
  | c + 1 => (g (a + c) :: (popF (g (a + c)) (shG g a c).1 (shG g a c).2).1, 2 * (popF (g (a + c)) (shG g a c).1 (shG g a c).2).2 + 1)
theorem shG_len (g : Nat → Int) (a : Nat) : ∀ c, (shG g a c).1.length ≤ c
  | 0 => Nat.le_refl _
  | c + 1 => by
    have h1 := shG_len g a c
    have h2 := popF_len (g (a + c)) (shG g a c).1 (shG g a c).2
    show (_ :: _).length ≤ _
    rw [List.length_cons]
    omega
/-- the shape of a block -/
def shB (g : Nat → Int) (n w b : Nat) : Nat := (shG g (b * w) (min w (n - b * w))).2
/-- the row pl holds the pile P -/
def pileIs (pl : Nat → Int32) : List Int → Prop
  | [] => True
  | t :: P => (pl P.length).toInt = t ∧ pileIs pl P
theorem pileIs_upd {pl : Nat → Int32} {k : Nat} {x : Int32} : ∀ {P : List Int}, P.length ≤ k → pileIs pl P → pileIs (upd pl k x) P
  | [], _, _ => trivial
  | t :: P, hk, h => by
    rw [List.length_cons] at hk
    refine ⟨?_, pileIs_upd (by omega) h.2⟩
    rw [upd_ne (by omega)]
    exact h.1
theorem pileIs_pop {pl : Nat → Int32} (v : Int) : ∀ {P : List Int} {m : Nat}, pileIs pl P → pileIs pl (popF v P m).1
  | [], _, _ => trivial
  | t :: P, m, h => by
    unfold popF
    split
    · exact pileIs_pop v h.2
    · exact h
theorem pileIs_push {pl : Nat → Int32} {P : List Int} {x : Int32} (h : pileIs pl P) : pileIs (upd pl P.length x) (x.toInt :: P) := ⟨by rw [upd_at], pileIs_upd (Nat.le_refl _) h⟩
/-! tables -/
def ldF (s : Nat) : Nat → Nat
  | 0 => 0
  | d + 1 => if s / 2 ^ (d + 1) = 0 then ldF s d else d + 1
theorem ldF_le (s : Nat) : ∀ d, ldF s d ≤ d
  | 0 => Nat.le_refl _
  | d + 1 => by
    have := ldF_le s d
    unfold ldF
    split <;> omega
def teS (s : Nat) (j : Int) : Nat → List Int → Int → List Int × Int
  | 0, P, p => (P, p)
  | d + 1, P, p => if j < p then (P, p) else if s / 2 ^ d % 2 = 0 then teS s j d P.tail p else if P.length < 6 then teS s j d (p :: P) (p + 1) else teS s j d P p
/-- the lowest on a pile that is no less than i -/
def scT (i : Int) : Int → List Int → Int
  | z, [] => z
  | z, t :: P => scT i (if i ≤ t then t else z) P
def fsF (q : Nat → Int) (i z : Int) : Nat → Nat → Int
  | 0, _ => z
  | d + 1, k => if i ≤ q k then q k else fsF q i z d (k + 1)
theorem fsF_last (q : Nat → Int) (i z : Int) : ∀ d k, fsF q i z (d + 1) k = fsF q i (if i ≤ q (k + d) then q (k + d) else z) d k
  | 0, k => by simp [fsF]
  | d + 1, k => by
    rw [fsF, fsF_last q i z d (k + 1)]
    conv => rhs; rw [fsF]
    rw [show k + 1 + d = k + (d + 1) by omega]
theorem fsF_sc {pl : Nat → Int32} (i : Int) : ∀ (P : List Int) (z : Int), pileIs pl P → fsF (tI pl) i z P.length 0 = scT i z P
  | [], _, _ => rfl
  | t :: P, z, h => by
    rw [List.length_cons, fsF_last, scT, Nat.zero_add]
    have h1 : tI pl P.length = t := h.1
    rw [h1]
    exact fsF_sc i P _ h.2
def teF (s : Nat) (i j : Int) : Int := scT i j (teS s j (ldF s 11) [] 0).1
/-! counts of blocks -/
def newB (q : Nat → Int) (b : Nat) : Prop := ∀ k, k < b → q k ≠ q b
def unF (q : Nat → Int) : Nat → Nat
  | 0 => 0
  | b + 1 => unF q b + (if ∀ k, k < b → q k ≠ q b then 1 else 0)
theorem unF_le (q : Nat → Int) : ∀ b, unF q b ≤ b
  | 0 => Nat.le_refl _
  | b + 1 => by
    have := unF_le q b
    unfold unF
    split <;> omega
/-- the first k from k on, up to b, that is as b is -/
def saF (q : Nat → Int) (b : Nat) : Nat → Nat → Nat
  | 0, k => k
  | d + 1, k => if q k = q b then k else saF q b d (k + 1)
theorem saF_in (q : Nat → Int) (b : Nat) : ∀ d k, k ≤ saF q b d k ∧ saF q b d k ≤ k + d
  | 0, k => ⟨Nat.le_refl _, Nat.le_refl _⟩
  | d + 1, k => by
    have ih := saF_in q b d (k + 1)
    unfold saF
    split <;> omega
theorem saF_new (q : Nat → Int) (b : Nat) : ∀ d k, k + d = b → (saF q b d k = b ↔ ∀ j, k ≤ j → j < b → q j ≠ q b)
  | 0, k, h => by
    unfold saF
    exact ⟨fun _ j h1 h2 => by omega, fun _ => by omega⟩
  | d + 1, k, h => by
    have ih := saF_new q b d (k + 1) (by omega)
    unfold saF
    split
    · rename_i hq
      exact ⟨fun e => by omega, fun e => absurd hq (e k (Nat.le_refl _) (by omega))⟩
    · rename_i hq
      rw [ih]
      refine ⟨fun e j h1 h2 => ?_, fun e j h1 h2 => e j (by omega) h2⟩
      by_cases hj : j = k
      · subst hj; exact hq
      · exact e j (by omega) h2
/-- levels, entries: over 1, 2, 4, .. -/
def lvF (b : Nat) : Nat → Nat → Nat
  | 0, _ => 0
  | d + 1, r => if b < r then 0 else lvF b d (2 * r) + 1
def enF (b : Nat) : Nat → Nat → Int
  | 0, _ => 0
  | d + 1, r => if b < r then 0 else enF b d (2 * r) + ((b : Int) - r + 1)
def biF (q : Nat → Int) (w b : Nat) : Int := 2 * (w : Int) * b + 6 * enF b 7 1 + 3 * (w : Int) * w * (unF q b : Int)
