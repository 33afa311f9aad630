theorem lg_cmp_0 {x y : Int64} : lg_cmp x y = 0 ↔ x = y := by
  unfold lg_cmp
  by_cases h1 : x > y
  · rw [if_pos h1]
    refine ⟨fun h => absurd h (by decide +kernel), fun h => ?_⟩
    subst h
    exact absurd h1 (Int64.lt_irrefl)
  · rw [if_neg h1]
    by_cases h2 : x = y
    · simp [h2]
    · rw [if_neg h2]
      exact ⟨fun h => absurd h (by decide +kernel), fun h => absurd h h2⟩
/-- two longs compared, the answer asked for 0 -/
theorem j_lif_eq {E : jD} {Y : jY} {Z : jZ} {k n pc : Nat} {lv : List (Nat × Value)} {st : List Value} {M : va_W} (tgt pc' : Nat) {x y : Int64} {off : Int} (hdc : decode Y.2.1 pc = .ok (.lcmp, 1)) (hdg : decode Y.2.1 (pc + 1) = .ok (.ifCond .eq off, 3)) (kt : x = y → J E Y Z k n tgt lv st M) (kf : ¬ x = y → J E Y Z k n pc' lv st M) (ht : ((pc + 1 : Nat) : Int) + off = (tgt : Int) := by decide) (hpc : pc + 4 = pc' := by rfl) : J E Y Z k n pc lv (.long y :: .long x :: st) M := by
  subst hpc
  refine j_lcmp (pc + 1) hdc ?_
  intro p l e s m args below meth c A C H locs ls hl hP hD hS
  obtain ⟨hx, hb, hml, hr, hlk, ho, hnm, hts, hK, hA, hX⟩ := id C
  refine lv_if_eq hx hb hdg ht (fun h => ?_) (fun h => ?_)
  · exact kt (lg_cmp_0.mp h) p l e s m args below meth c A C H locs ls hl hP hD hS
  · exact kf (fun q => h (lg_cmp_0.mpr q)) p l e s m args below meth c A C H locs ls hl hP hD hS
theorem j_lif_ne {E : jD} {Y : jY} {Z : jZ} {k n pc : Nat} {lv : List (Nat × Value)} {st : List Value} {M : va_W} (tgt pc' : Nat) {x y : Int64} {off : Int} (hdc : decode Y.2.1 pc = .ok (.lcmp, 1)) (hdg : decode Y.2.1 (pc + 1) = .ok (.ifCond .ne off, 3)) (kt : ¬ x = y → J E Y Z k n tgt lv st M) (kf : x = y → J E Y Z k n pc' lv st M) (ht : ((pc + 1 : Nat) : Int) + off = (tgt : Int) := by decide) (hpc : pc + 4 = pc' := by rfl) : J E Y Z k n pc lv (.long y :: .long x :: st) M := by
  subst hpc
  refine j_lcmp (pc + 1) hdc ?_
  intro p l e s m args below meth c A C H locs ls hl hP hD hS
  obtain ⟨hx, hb, hml, hr, hlk, ho, hnm, hts, hK, hA, hX⟩ := id C
  refine lv_if_ne hx hb hdg ht (fun h => ?_) (fun h => ?_)
  · exact kt (fun q => h (lg_cmp_0.mpr q)) p l e s m args below meth c A C H locs ls hl hP hD hS
  · exact kf (lg_cmp_0.mp h) p l e s m args below meth c A C H locs ls hl hP hD hS
/-! bits (ts_bit is kit/laws/BITS.to-paste's) -/
theorem ts_bit {w : Int64} {s : UInt64} {j : Nat} (hj : j < 64) (hs : s.toNat = j) : ((w.toUInt64 >>> s).toInt64 &&& 1) = 0 ↔ w.toBitVec.getLsbD j = false := by
  have e : (w.toUInt64 >>> s).toInt64.toBitVec = w.toBitVec >>> j := by
    apply BitVec.eq_of_toNat_eq
    show (w.toUInt64 >>> s).toNat = _
    rw [UInt64.toNat_shiftRight, hs, Nat.mod_eq_of_lt hj, BitVec.toNat_ushiftRight]
    rfl
  rw [← Int64.toBitVec_inj, Int64.toBitVec_and, e]
  show w.toBitVec >>> j &&& 1#64 = 0#64 ↔ _
  constructor
  · intro h
    have t := congrArg (fun x => x.getLsbD 0) h
    simpa using t
  · intro h
    apply BitVec.eq_of_getLsbD_eq
    intro i hi
    simp only [BitVec.getLsbD_and, BitVec.getLsbD_ushiftRight, BitVec.getLsbD_one, BitVec.getLsbD_zero]
    by_cases h0 : i = 0
    · subst h0; simp [h]
    · simp [h0]
theorem sh_cnt : ∀ k, k < 64 → ((iI ((k : Nat) : Int)).toInt64.toUInt64 &&& Int64.toUInt64 63).toNat = k := by decide +kernel
theorem sh_one : ∀ k, k < 64 → ((1 : Int64) <<< ((iI ((k : Nat) : Int)).toInt64 &&& 63)).toBitVec = BitVec.twoPow 64 k := by decide +kernel
theorem iI_shr {s : Nat} (c : Int) (k : Nat) (h : s < 2147483648) (hs : (((iI c) &&& 31).toBitVec.smod 32).toNat = k) : iI (s : Int) >>> (iI c &&& 31) = iI ((s / 2 ^ k : Nat) : Int) := pk_shrN (n := s) (by omega) (iI c &&& 31) k hs
theorem iI_and {s : Nat} (c : Int) (k : Nat) (h : s < 2147483648) (hs : (iI c).toBitVec.toNat = 2 ^ k - 1) : iI (s : Int) &&& iI c = iI ((s % 2 ^ k : Nat) : Int) := pk_andN (n := s) (by omega) k hs
/-- is a number in the set that the words hold -/
def wB (w : Nat → Int64) (s : Nat) : Bool := (w (s / 64)).toBitVec.getLsbD (s % 64)
def incW (w : Nat → Int64) (s : Nat) : Nat → Int64 := vp_updL w (s / 64) (w (s / 64) ||| ((1 : Int64) <<< ((iI ((s % 64 : Nat) : Int)).toInt64 &&& 63)))
theorem wB_inc (w : Nat → Int64) (s t : Nat) : wB (incW w s) t = (wB w t || decide (t = s)) := by
  unfold wB incW vp_updL
  by_cases h : t / 64 = s / 64
  · rw [if_pos h, Int64.toBitVec_or, BitVec.getLsbD_or, sh_one _ (Nat.mod_lt _ (by decide)), BitVec.getLsbD_twoPow, h]
    congr 1
    by_cases h2 : t = s
    · subst h2; simp [Nat.mod_lt]
    · have h3 : ¬ s % 64 = t % 64 := by omega
      simp [h2, h3]
  · rw [if_neg h]
    have h2 : ¬ t = s := fun e => h (by rw [e])
    simp [h2]
theorem wB_fill (w : Nat → Int64) (s : Nat) (h : s < 4096) : wB (fun j => if j < 64 then 0 else w j) s = false := by
  have h2 : s / 64 < 64 := by omega
  simp [wB, h2]
/-- moved down by one, the first i of them -/
def shF (p : Nat → Int32) (i : Nat) : Nat → Int32 := fun j => if j < i then p (j + 1) else p j
theorem shF_0 (p : Nat → Int32) : shF p 0 = p := by funext j; simp [shF]
theorem shF_s (p : Nat → Int32) (i : Nat) : upd (shF p i) i (p (i + 1)) = shF p (i + 1) := by
  funext j
  unfold upd shF
  by_cases h : j = i
  · subst h; simp
  · by_cases h2 : j < i
    · simp [h, h2, Nat.lt_succ_of_lt h2]
    · have h3 : ¬ j < i + 1 := by omega
      simp [h, h2, h3]
theorem j_take {E : jD} {Y : jY} {Z : jZ} {k n pc : Nat} {lv : List (Nat × Value)} {st : List Value} {M : va_W} (t : Nat) (kk : J E Y Z k n pc (lv.take t) st M) : J E Y Z k n pc lv st M := j_sub (fun _ hq => List.mem_of_mem_take hq) kk
