/-! bits of ints (bt .. b_sshr: kit/laws/BITS.to-paste) -/
def bt (x : Int32) (i : Nat) : Bool := x.toBitVec.getLsbD i
theorem b_ext {x y : Int32} (h : ∀ i, i < 32 → bt x i = bt y i) : x = y := Int32.toBitVec_inj.mp (BitVec.eq_of_getLsbD_eq (fun i hi => h i hi))
theorem b_or (x y : Int32) (i : Nat) : bt (x ||| y) i = (bt x i || bt y i) := by unfold bt; rw [Int32.toBitVec_or, BitVec.getLsbD_or]
theorem b_and (x y : Int32) (i : Nat) : bt (x &&& y) i = (bt x i && bt y i) := by unfold bt; rw [Int32.toBitVec_and, BitVec.getLsbD_and]
theorem s_l : ∀ n, n < 32 → ((nI n &&& 31).toBitVec.smod 32).toNat = n := by decide +kernel
theorem b_shl (n : Nat) (hn : n < 32) (x : Int32) {i : Nat} (hi : i < 32) : bt (x <<< (nI n &&& 31)) i = (decide (n ≤ i) && bt x (i - n)) := by
  unfold bt
  rw [Int32.toBitVec_shiftLeft]
  show (x.toBitVec <<< ((nI n &&& 31).toBitVec.smod 32).toNat).getLsbD i = _
  rw [s_l n hn, BitVec.getLsbD_shiftLeft]
  rcases Nat.lt_or_ge i n with h | h
  · simp [h, Nat.not_le.mpr h]
  · simp [hi, h, Nat.not_lt.mpr h]
theorem b_sshr (n : Nat) (hn : n < 32) (x : Int32) {i : Nat} (hi : i < 32) : bt (x >>> (nI n &&& 31)) i = if n + i < 32 then bt x (n + i) else bt x 31 := by
  unfold bt
  rw [Int32.toBitVec_shiftRight]
  show (x.toBitVec.sshiftRight ((nI n &&& 31).toBitVec.smod 32).toNat).getLsbD i = _
  rw [s_l n hn, BitVec.getLsbD_sshiftRight, BitVec.msb_eq_getLsbD_last]
  simp [hi]
theorem b_one : ∀ i, i < 32 → bt (iI 1) i = decide (i = 0) := by decide +kernel
theorem b_i01 : ∀ i, i < 32 → bt (iI 0) i = false := by decide +kernel
/-- is a number in the set that the ints hold -/
def mB (md : Nat → Int32) (s : Nat) : Bool := bt (md (s / 32)) (s % 32)
theorem mB_get (x : Int32) (k : Nat) (hk : k < 32) : (x >>> (iI (k : Int) &&& 31)) &&& iI 1 = iI (bI (bt x k = true)) := by
  apply b_ext
  intro i hi
  rw [b_and, b_one i hi]
  have h := b_sshr k hk x hi
  rw [show nI k = iI (k : Int) from rfl] at h
  rw [h]
  unfold bI
  by_cases h0 : i = 0
  · subst h0
    rw [if_pos (by omega), Nat.add_zero]
    cases hx : bt x k with
    | true => rw [if_pos rfl, b_one 0 (by decide)]; rfl
    | false => rw [if_neg (by decide), b_i01 0 (by decide)]; rfl
  · simp only [h0, decide_false, Bool.and_false]
    split
    · rw [b_one i hi]; simp [h0]
    · rw [b_i01 i hi]
def incM (md : Nat → Int32) (s : Nat) : Nat → Int32 := upd md (s / 32) (md (s / 32) ||| (iI 1 <<< (iI ((s % 32 : Nat) : Int) &&& 31)))
theorem mB_inc (md : Nat → Int32) (s t : Nat) : mB (incM md s) t = (mB md t || decide (t = s)) := by
  unfold mB incM upd
  by_cases h : t / 32 = s / 32
  · rw [if_pos h, b_or, h]
    have h1 := b_shl (s % 32) (Nat.mod_lt _ (by decide)) (iI 1) (i := t % 32) (Nat.mod_lt _ (by decide))
    rw [show nI (s % 32) = iI ((s % 32 : Nat) : Int) from rfl] at h1
    rw [h1]
    congr 1
    by_cases h2 : t = s
    · subst h2
      rw [Nat.sub_self, b_one 0 (by decide)]; simp
    · by_cases h3 : s % 32 ≤ t % 32
      · rw [b_one _ (by omega)]
        have h4 : ¬ t % 32 - s % 32 = 0 := by omega
        simp [h2, h4]
      · simp [h2, h3]
  · rw [if_neg h]
    have h2 : ¬ t = s := fun e => h (by rw [e])
    simp [h2]
def imW (md : Nat → Int32) (s : Nat) : Nat → Int32 := if mB md s = true then md else incM md s
def imM (md : Nat → Int32) (m : Int) (s : Nat) : Int := if mB md s = true then m else m + 1
def imB (g : Nat → Int) (n wd : Nat) (md : Nat → Int32) : Nat → (Nat → Int32) × Int
  | 0 => (md, 0)
  | b + 1 => (imW (imB g n wd md b).1 (shB g n wd b), imM (imB g n wd md b).1 (imB g n wd md b).2 (shB g n wd b))
/-- taken off as item c comes -/
def tkN (v : Int) : List Int → Nat
  | [] => 0
  | t :: P => if v < t then tkN v P + 1 else 0
theorem tkN_le (v : Int) : ∀ P, tkN v P ≤ P.length
  | [] => Nat.le_refl _
  | t :: P => by
    have := tkN_le v P
    unfold tkN
    split <;> simp <;> omega
def tkF (g : Nat → Int) (a c : Nat) : Nat := tkN (g (a + c)) (shG g a c).1
/-! the reference's way down the tree over the items -/
def dmF (g : Nat → Int) (i : Nat) : Nat → Nat → Nat → Nat × Int → Nat × Int
  | 0, _, _, s => s
  | d + 1, a, b, s => if lsF g a (b - a) = i then s else if i < lsF g a (b - a) then dmF g i d a (lsF g a (b - a) - 1) (s.1 + 1, (lsF g a (b - a) : Int)) else dmF g i d (lsF g a (b - a) + 1) b (s.1 + 1, (lsF g a (b - a) : Int))

