/-! runs of one shape: steps to the left and what is taken off tell the same -/
/-- the pile P after c items of the run at a; Z: how far each reaches to the left -/
def pz (g : Nat → Int) (a : Nat) : List Int → List Nat → Nat → Prop
  | [], [], c => c = 0
  | t :: P, z :: Z, c => 1 ≤ z ∧ z ≤ c ∧ g (a + (c - 1)) = t ∧ (∀ k, c - z ≤ k → k + 1 < c → t < g (a + k)) ∧ (c - z = 0 ∨ g (a + (c - z - 1)) ≤ t) ∧ pz g a P Z (c - z)
  | _, _, _ => False
theorem pz_pop {g : Nat → Int} {a : Nat} (v : Int) : ∀ (P : List Int) (Z : List Nat) (c m : Nat), pz g a P Z c →
    (Z.take (tkN v P)).sum ≤ c ∧ tkN v P ≤ Z.length ∧ pz g a (popF v P m).1 (Z.drop (tkN v P)) (c - (Z.take (tkN v P)).sum) ∧ (∀ k, c - (Z.take (tkN v P)).sum ≤ k → k < c → v < g (a + k)) ∧ (c - (Z.take (tkN v P)).sum = 0 ∨ g (a + (c - (Z.take (tkN v P)).sum - 1)) ≤ v)
  | [], [], c, m, h => by
    have h0 : c = 0 := h
    subst h0
    exact ⟨Nat.le_refl _, Nat.le_refl _, rfl, fun k h1 h2 => by omega, Or.inl rfl⟩
  | t :: P, z :: Z, c, m, h => by
    obtain ⟨h1, h2, h3, h4, h5, h6⟩ := h
    by_cases hv : v < t
    · have e1 : tkN v (t :: P) = tkN v P + 1 := if_pos hv
      have e2 : popF v (t :: P) m = popF v P (2 * m) := if_pos hv
      obtain ⟨q1, q2, q3, q4, q5⟩ := pz_pop v P Z (c - z) (2 * m) h6
      rw [e1, e2, List.take_succ_cons, List.sum_cons, List.drop_succ_cons, List.length_cons]
      have e3 : c - (z + (Z.take (tkN v P)).sum) = c - z - (Z.take (tkN v P)).sum := by omega
      rw [e3]
      refine ⟨by omega, by omega, q3, fun k r1 r2 => ?_, q5⟩
      by_cases hk : k < c - z
      · exact q4 k r1 hk
      · by_cases hk2 : k + 1 < c
        · have := h4 k (by omega) hk2; omega
        · obtain rfl : k = c - 1 := by omega
          rw [h3]; exact hv
    · have e1 : tkN v (t :: P) = 0 := if_neg hv
      have e2 : popF v (t :: P) m = (t :: P, m) := if_neg hv
      rw [e1, e2]
      refine ⟨Nat.zero_le _, Nat.zero_le _, ⟨h1, h2, h3, h4, h5, h6⟩, fun k r1 r2 => ?_, Or.inr ?_⟩
      · rw [List.take_zero, List.sum_nil] at r1; omega
      · rw [List.take_zero, List.sum_nil, Nat.sub_zero, h3]; omega
  | [], _ :: _, _, _, h => h.elim
  | _ :: _, [], _, _, h => h.elim
def zl (tk : Nat → Nat) : Nat → List Nat
  | 0 => []
  | c + 1 => (1 + ((zl tk c).take (tk c)).sum) :: (zl tk c).drop (tk c)
theorem zl_cg {tk tk' : Nat → Nat} : ∀ c, (∀ k, k < c → tk k = tk' k) → zl tk c = zl tk' c
  | 0, _ => rfl
  | c + 1, h => by
    have ih := zl_cg c (fun k hk => h k (by omega))
    unfold zl
    rw [ih, h c (by omega)]
theorem zl_pz (g : Nat → Int) (a : Nat) : ∀ c, pz g a (shG g a c).1 (zl (tkF g a) c) c
  | 0 => rfl
  | c + 1 => by
    have ih := zl_pz g a c
    obtain ⟨q1, q2, q3, q4, q5⟩ := pz_pop (g (a + c)) (shG g a c).1 (zl (tkF g a) c) c (shG g a c).2 ih
    have et : tkN (g (a + c)) (shG g a c).1 = tkF g a c := rfl
    rw [et] at q1 q2 q3 q4 q5
    unfold shG zl
    refine ⟨by omega, by omega, by rw [Nat.add_sub_cancel], fun k r1 r2 => q4 k (by omega) (by omega), ?_, ?_⟩
    · rw [show c + 1 - (1 + ((zl (tkF g a) c).take (tkF g a c)).sum) = c - ((zl (tkF g a) c).take (tkF g a c)).sum by omega]
      exact q5
    · rw [show c + 1 - (1 + ((zl (tkF g a) c).take (tkF g a c)).sum) = c - ((zl (tkF g a) c).take (tkF g a c)).sum by omega]
      exact q3
theorem lfF_max {g : Nat → Int} {v : Int} {a e : Nat} : ∀ m, e ≤ m → (∀ k, e ≤ k → k < m → v < g (a + k)) → (e = 0 ∨ g (a + (e - 1)) ≤ v) → max ((a : Int) - 1) (lfF g v (a + m)) = (a : Int) + e - 1
  | 0, h1, _, h3 => by
    obtain rfl : e = 0 := by omega
    have := lfF_in g v (a + 0)
    omega
  | m + 1, h1, h2, h3 => by
    have es : lfF g v (a + m + 1) = if v < g (a + m) then lfF g v (a + m) else ((a + m : Nat) : Int) := rfl
    rw [show a + (m + 1) = a + m + 1 by omega, es]
    by_cases he : e = m + 1
    · subst he
      have : g (a + m) ≤ v := by
        rcases h3 with h | h
        · omega
        · exact h
      rw [if_neg (by omega)]
      omega
    · rw [if_pos (h2 m (by omega) (by omega))]
      exact lfF_max m (by omega) (fun k q1 q2 => h2 k q1 (by omega)) h3
theorem st_zl (g : Nat → Int) (a c : Nat) : stF g a (a + c) = ((1 + ((zl (tkF g a) c).take (tkF g a c)).sum : Nat) : Int) := by
  obtain ⟨q1, q2, q3, q4, q5⟩ := pz_pop (g (a + c)) (shG g a c).1 (zl (tkF g a) c) c (shG g a c).2 (zl_pz g a c)
  have et : tkN (g (a + c)) (shG g a c).1 = tkF g a c := rfl
  rw [et] at q1 q2 q3 q4 q5
  unfold stF
  have h := lfF_max (g := g) (v := g (a + c)) (a := a) (e := c - ((zl (tkF g a) c).take (tkF g a c)).sum) c (by omega) q4 q5
  rw [show lfE g (a + c) = lfF g (g (a + c)) (a + c) from rfl, h]
  omega
theorem pz_pos {g : Nat → Int} {a : Nat} : ∀ (P : List Int) (Z : List Nat) (c : Nat), pz g a P Z c → ∀ z, z ∈ Z → 1 ≤ z
  | [], [], _, _, _, h => by cases h
  | t :: P, z :: Z, c, h, y, hy => by
    rcases List.mem_cons.mp hy with e | e
    · subst e; exact h.1
    · exact pz_pos P Z _ h.2.2.2.2.2 y e
  | [], _ :: _, _, h, _, _ => h.elim
  | _ :: _, [], _, h, _, _ => h.elim
theorem pz_len {g : Nat → Int} {a : Nat} : ∀ (P : List Int) (Z : List Nat) (c : Nat), pz g a P Z c → Z.length = P.length
  | [], [], _, _ => rfl
  | t :: P, z :: Z, c, h => by rw [List.length_cons, List.length_cons, pz_len P Z _ h.2.2.2.2.2]
  | [], _ :: _, _, h => h.elim
  | _ :: _, [], _, h => h.elim
theorem sum_inj : ∀ (Z : List Nat) (s t : Nat), (∀ z, z ∈ Z → 1 ≤ z) → s ≤ Z.length → t ≤ Z.length → (Z.take s).sum = (Z.take t).sum → s = t
  | [], s, t, _, h1, h2, _ => by
    simp only [List.length_nil] at h1 h2; omega
  | z :: Z, 0, 0, _, _, _, _ => rfl
  | z :: Z, 0, t + 1, h, _, _, h3 => by
    have := h z (List.mem_cons_self ..)
    rw [List.take_zero, List.take_succ_cons, List.sum_cons, List.sum_nil] at h3; omega
  | z :: Z, s + 1, 0, h, _, _, h3 => by
    have := h z (List.mem_cons_self ..)
    rw [List.take_zero, List.take_succ_cons, List.sum_cons, List.sum_nil] at h3; omega
  | z :: Z, s + 1, t + 1, h, h1, h2, h3 => by
    rw [List.take_succ_cons, List.take_succ_cons, List.sum_cons, List.sum_cons] at h3
    rw [List.length_cons] at h1 h2
    rw [sum_inj Z s t (fun y hy => h y (List.mem_cons_of_mem _ hy)) (by omega) (by omega) (by omega)]
theorem tk_of_st (g : Nat → Int) (i j m : Nat) (h : ∀ k, k < m → stF g i (i + k) = stF g j (j + k)) : ∀ c, c ≤ m → ∀ k, k < c → tkF g i k = tkF g j k
  | 0, _, _, hk => by omega
  | c + 1, hc, k, hk => by
    have ih := tk_of_st g i j m h c (by omega)
    by_cases hkc : k < c
    · exact ih k hkc
    · obtain rfl : k = c := by omega
      have hz := zl_cg (tk := tkF g i) (tk' := tkF g j) k ih
      have h1 := h k (by omega)
      rw [st_zl, st_zl, ← hz] at h1
      have l1 : tkF g i k ≤ (zl (tkF g i) k).length := by rw [pz_len _ _ _ (zl_pz g i k)]; exact tkN_le _ _
      have l2 : tkF g j k ≤ (zl (tkF g i) k).length := by rw [hz, pz_len _ _ _ (zl_pz g j k)]; exact tkN_le _ _
      exact sum_inj _ _ _ (pz_pos _ _ _ (zl_pz g i k)) l1 l2 (by omega)
theorem alike_iff (g : Nat → Int) (i j m : Nat) : (∀ k, k < m → stF g i (i + k) = stF g j (j + k)) ↔ ∀ k, k < m → tkF g i k = tkF g j k := by
  constructor
  · intro h
    exact tk_of_st g i j m h m (Nat.le_refl _)
  · intro h k hk
    rw [st_zl, st_zl, zl_cg k (fun q hq => h q (by omega)), h k hk]
theorem bI_iff {c d : Prop} [Decidable c] [Decidable d] (h : c ↔ d) : bI c = bI d := by
  by_cases hc : c
  · rw [bI_t hc, bI_t (h.mp hc)]
  · rw [bI_f hc, bI_f (fun z => hc (h.mpr z))]
/-! which shapes there are -/
def gen : Nat → List (Nat × Nat)
  | 0 => [(0, 1)]
  | c + 1 => (gen c).flatMap (fun x => (List.range (x.1 + 1)).map (fun t => (x.1 - t + 1, x.2 * 2 ^ t * 2 + 1)))
theorem popF_is (v : Int) : ∀ (P : List Int) (m : Nat), (popF v P m).1.length = P.length - tkN v P ∧ (popF v P m).2 = m * 2 ^ tkN v P
  | [], m => ⟨rfl, (Nat.mul_one m).symm⟩
  | t :: P, m => by
    by_cases h : v < t
    · have e1 : tkN v (t :: P) = tkN v P + 1 := if_pos h
      have e2 : popF v (t :: P) m = popF v P (2 * m) := if_pos h
      obtain ⟨q1, q2⟩ := popF_is v P (2 * m)
      rw [e1, e2, q1, q2, List.length_cons, Nat.pow_succ]
      exact ⟨by omega, by rw [Nat.mul_comm 2 m, Nat.mul_assoc, Nat.mul_comm 2]⟩
    · have e1 : tkN v (t :: P) = 0 := if_neg h
      have e2 : popF v (t :: P) m = (t :: P, m) := if_neg h
      rw [e1, e2]
      exact ⟨rfl, (Nat.mul_one m).symm⟩
theorem shG_gen (g : Nat → Int) (a : Nat) : ∀ c, ((shG g a c).1.length, (shG g a c).2) ∈ gen c
  | 0 => by simp [shG, gen]
  | c + 1 => by
    have ih := shG_gen g a c
    obtain ⟨q1, q2⟩ := popF_is (g (a + c)) (shG g a c).1 (shG g a c).2
    have hle := tkN_le (g (a + c)) (shG g a c).1
    unfold gen
    refine List.mem_flatMap.mpr ⟨_, ih, List.mem_map.mpr ⟨tkN (g (a + c)) (shG g a c).1, List.mem_range.mpr (by omega), ?_⟩⟩
    have e : shG g a (c + 1) = (g (a + c) :: (popF (g (a + c)) (shG g a c).1 (shG g a c).2).1, 2 * (popF (g (a + c)) (shG g a c).1 (shG g a c).2).2 + 1) := rfl
    rw [e]
    show _ = ((g (a + c) :: (popF (g (a + c)) (shG g a c).1 (shG g a c).2).1).length, 2 * (popF (g (a + c)) (shG g a c).1 (shG g a c).2).2 + 1)
    rw [List.length_cons, q1, q2, Nat.mul_comm 2]
/-- a shape that a block may have -/
def okS (s : Nat) : Prop := ∃ c, c ≤ 6 ∧ ∃ l, (l, s) ∈ gen c
theorem shB_ok (g : Nat → Int) (n : Nat) {w : Nat} (b : Nat) (hw : w ≤ 6) : okS (shB g n w b) := ⟨min w (n - b * w), by omega, _, shG_gen g (b * w) _⟩
def ocF (s : Nat) : Nat → Nat
  | 0 => 0
  | d + 1 => if s / 2 ^ d % 2 = 0 then ocF s d else ocF s d + 1
theorem enM_p (s : Nat) (i j : Int) : ∀ (d : Nat) (P : List Int) (p z : Int), (enM s i j d P p z).1 = p + ocF s d
  | 0, _, p, _ => by show p = p + ((0 : Nat) : Int); omega
  | d + 1, P, p, z => by
    unfold enM ocF
    by_cases h : s / 2 ^ d % 2 = 0
    · rw [if_pos h, if_pos h, enM_p]
    · rw [if_neg h, if_neg h, enM_p]; omega
def entOK (s : Nat) : Bool := enOK s (ldF s 11) 0 && decide (ocF s (ldF s 11) + 1 = ones s) && decide (ones s ≤ 7) && (List.range 6).all (fun j => (List.range (j + 1)).all (fun i => decide (ones s ≤ j + 1) || decide ((enM s i j (ldF s 11) [] 0 (-9)).2 = teF s i j)))
theorem ent_all : ∀ c, c < 7 → (gen c).all (fun x => entOK x.2) = true := by decide +kernel
theorem ent_ok {s : Nat} (h : okS s) : entOK s = true := by
  obtain ⟨c, hc, l, hl⟩ := h
  exact List.all_eq_true.mp (ent_all c (by omega)) _ hl
theorem ent_1 {s : Nat} (h : okS s) : enOK s (ldF s 11) 0 = true := by
  have h := ent_ok h
  unfold entOK at h
  simp only [Bool.and_eq_true] at h
  exact h.1.1.1
theorem ent_2 {s : Nat} (h : okS s) (i j : Int) : ((ones s - 1 : Nat) : Int) = (enM s i j (ldF s 11) [] 0 (-9)).1 ∧ 1 ≤ ones s ∧ ones s ≤ 7 := by
  have h := ent_ok h
  unfold entOK at h
  simp only [Bool.and_eq_true, decide_eq_true_eq] at h
  rw [enM_p]
  omega
theorem ent_3 {s : Nat} (h : okS s) {i j : Int} (hij : 0 ≤ i ∧ i ≤ j ∧ j < (ones s : Int) - 1) : (enM s i j (ldF s 11) [] 0 (-9)).2 = teF s i j := by
  have h2 := ent_2 h i j
  have h := ent_ok h
  unfold entOK at h
  simp only [Bool.and_eq_true] at h
  obtain ⟨i, rfl⟩ : ∃ k : Nat, i = (k : Int) := ⟨i.toNat, by omega⟩
  obtain ⟨j, rfl⟩ : ∃ k : Nat, j = (k : Int) := ⟨j.toNat, by omega⟩
  have h3 := List.all_eq_true.mp (List.all_eq_true.mp h.2 j (List.mem_range.mpr (by omega))) i (List.mem_range.mpr (by omega))
  rw [Bool.or_eq_true, decide_eq_true_eq, decide_eq_true_eq] at h3
  rcases h3 with h3 | h3
  · omega
  · exact h3
/-! the sets of shapes -/
/-- the class's set and the reference's are one -/
def setR (w : Nat → Int64) (md : Nat → Int32) : Prop := ∀ s, s < 8192 → mB md s = (decide (s < 4096) && wB w s)
theorem setR_in {w : Nat → Int64} {md : Nat → Int32} (h : setR w md) {s : Nat} (hs : s < 4096) : setR (inW w s) (imW md s) := by
  have e : mB md s = wB w s := by rw [h s (by omega), decide_eq_true hs, Bool.true_and]
  unfold inW imW
  rw [e]
  cases hw : wB w s with
  | true => rw [if_pos rfl, if_pos rfl]; exact h
  | false =>
    rw [if_neg (by decide), if_neg (by decide)]
    intro t ht
    rw [mB_inc, wB_inc, h t ht]
    by_cases h1 : t < 4096
    · rw [decide_eq_true h1, Bool.true_and, Bool.true_and]
    · have : ¬ t = s := by omega
      rw [decide_eq_false h1, Bool.false_and, Bool.false_and, decide_eq_false this, Bool.or_false]
theorem setR_m {w : Nat → Int64} {md : Nat → Int32} (h : setR w md) {s : Nat} (hs : s < 4096) (m : Int) : inM w m s = imM md m s := by
  have e : mB md s = wB w s := by rw [h s (by omega), decide_eq_true hs, Bool.true_and]
  unfold inM imM
  rw [e]
theorem wB_in (w : Nat → Int64) (s t : Nat) : wB (inW w s) t = (wB w t || decide (t = s)) := by
  unfold inW
  cases hw : wB w s with
  | true =>
    rw [if_pos rfl]
    by_cases h : t = s
    · subst h; rw [hw]; rfl
    · rw [decide_eq_false h, Bool.or_false]
  | false => rw [if_neg (by decide), wB_inc]
theorem wB_0 (w : Nat → Int64) {s : Nat} (hs : s < 4096) : wB (fa 0 64 w) s = false := by
  unfold wB fa
  rw [if_pos (by omega)]
  simp
theorem mB_0 (md : Nat → Int32) {s : Nat} (hs : s < 8192) : mB (fa (iI 0) 256 md) s = false := by
  unfold mB fa
  rw [if_pos (by omega), b_i01 _ (Nat.mod_lt _ (by decide))]
theorem set_build (g : Nat → Int) (n : Nat) {wd : Nat} (hw : wd ≤ 6) (w : Nat → Int64) (md : Nat → Int32) : ∀ b, setR (inB g n wd (fa 0 64 w) b).1 (imB g n wd (fa (iI 0) 256 md) b).1 ∧ (inB g n wd (fa 0 64 w) b).2 = (imB g n wd (fa (iI 0) 256 md) b).2 ∧ (∀ s, s < 4096 → (wB (inB g n wd (fa 0 64 w) b).1 s = true ↔ ∃ q, q < b ∧ shB g n wd q = s))
  | 0 => by
    refine ⟨fun s hs => ?_, rfl, fun s hs => ?_⟩
    · show mB (fa (iI 0) 256 md) s = (decide (s < 4096) && wB (fa 0 64 w) s)
      rw [mB_0 md hs]
      by_cases h : s < 4096
      · rw [wB_0 w h, Bool.and_false]
      · rw [decide_eq_false h, Bool.false_and]
    · show wB (fa 0 64 w) s = true ↔ _
      rw [wB_0 w hs]
      exact ⟨fun h => absurd h (by decide), fun ⟨q, h, _⟩ => absurd h (Nat.not_lt_zero q)⟩
  | b + 1 => by
    obtain ⟨h1, h2, h3⟩ := set_build g n hw w md b
    have hs := shB_lt g n b hw
    refine ⟨setR_in h1 hs, ?_, fun s hs2 => ?_⟩
    · show inM _ _ _ = imM _ _ _
      rw [setR_m h1 hs, h2]
    · show wB (inW _ _) s = true ↔ _
      rw [wB_in, Bool.or_eq_true, h3 s hs2, decide_eq_true_eq]
      constructor
      · rintro (⟨q, q1, q2⟩ | q)
        · exact ⟨q, by omega, q2⟩
        · exact ⟨b, by omega, q.symm⟩
      · rintro ⟨q, q1, q2⟩
        by_cases hq : q = b
        · subst hq; exact Or.inr q2.symm
        · exact Or.inl ⟨q, by omega, q2⟩
theorem imB_cg {g g' : Nat → Int} {n : Nat} (h : ∀ k, k < n → g k = g' k) (wd : Nat) (md : Nat → Int32) : ∀ b, imB g n wd md b = imB g' n wd md b
  | 0 => rfl
  | b + 1 => by
    unfold imB
    rw [imB_cg h wd md b, shB_cg h]
/-! history -/
def hiIs (hp hq : Nat → Int32) : List (Nat × Int32) → Prop
  | [] => True
  | x :: H => hp H.length = iI (x.1 : Int) ∧ hq H.length = x.2 ∧ hiIs hp hq H
theorem hiIs_upd {hp hq : Nat → Int32} {k : Nat} {x y : Int32} : ∀ {H : List (Nat × Int32)}, H.length ≤ k → hiIs hp hq H → hiIs (upd hp k x) (upd hq k y) H
  | [], _, _ => trivial
  | z :: H, h, h2 => by
    rw [List.length_cons] at h
    exact ⟨by rw [upd_ne (by omega)]; exact h2.1, by rw [upd_ne (by omega)]; exact h2.2.1, hiIs_upd (by omega) h2.2.2⟩
theorem hiIs_push {hp hq : Nat → Int32} {H : List (Nat × Int32)} (h : hiIs hp hq H) (i : Nat) (x : Int32) : hiIs (upd hp H.length (iI (i : Int))) (upd hq H.length x) ((i, x) :: H) := ⟨upd_at _ _ _, upd_at _ _ _, hiIs_upd (Nat.le_refl _) h⟩
theorem hiIs_drop {hp hq : Nat → Int32} (x : Nat × Int32) : ∀ {H : List (Nat × Int32)}, H.length ≤ 9 → hiIs hp hq (H ++ [x]) → hiIs (shF hp 9) (shF hq 9) H
  | [], _, _ => trivial
  | z :: H, h, h2 => by
    rw [List.length_cons] at h
    have h3 : hiIs hp hq (z :: (H ++ [x])) := h2
    obtain ⟨q1, q2, q3⟩ := h3
    rw [List.length_append, List.length_singleton] at q1 q2
    refine ⟨?_, ?_, hiIs_drop x (by omega) q3⟩
    · unfold shF; rw [if_pos (by omega)]; exact q1
    · unfold shF; rw [if_pos (by omega)]; exact q2
theorem hiIs_low {hp hq hp' hq' : Nat → Int32} : ∀ {H : List (Nat × Int32)}, (∀ k, k < H.length → hp k = hp' k ∧ hq k = hq' k) → hiIs hp hq H → hiIs hp' hq' H
  | [], _, _ => trivial
  | z :: H, h, h2 => by
    have h0 := h H.length (by simp)
    exact ⟨by rw [← h0.1]; exact h2.1, by rw [← h0.2]; exact h2.2.1, hiIs_low (fun k hk => h k (by rw [List.length_cons]; omega)) h2.2.2⟩
/-- all blocks' shapes are in the set, now and after each undo -/
def chOK (n wd : Nat) (w : Nat → Int64) : (Nat → Int32) → List (Nat × Int32) → Prop
  | f, [] => ∀ b, b < nB n wd → wB w (shB (tI f) n wd b) = true
  | f, x :: H => (∀ b, b < nB n wd → wB w (shB (tI f) n wd b) = true) ∧ x.1 < n ∧ chOK n wd w (upd f x.1 x.2) H
theorem chOK_now {n wd : Nat} {w : Nat → Int64} {f : Nat → Int32} : ∀ {H : List (Nat × Int32)}, chOK n wd w f H → ∀ b, b < nB n wd → wB w (shB (tI f) n wd b) = true
  | [], h => h
  | _ :: _, h => h.1
theorem chOK_mono {n wd : Nat} {w w' : Nat → Int64} (h : ∀ s, wB w s = true → wB w' s = true) : ∀ {H : List (Nat × Int32)} {f : Nat → Int32}, chOK n wd w f H → chOK n wd w' f H
  | [], _, h2 => fun b hb => h _ (h2 b hb)
  | _ :: H, _, h2 => ⟨fun b hb => h _ (h2.1 b hb), h2.2.1, chOK_mono h h2.2.2⟩
theorem chOK_drop {n wd : Nat} {w : Nat → Int64} (x : Nat × Int32) : ∀ {H : List (Nat × Int32)} {f : Nat → Int32}, chOK n wd w f (H ++ [x]) → chOK n wd w f H
  | [], _, h => h.1
  | _ :: H, _, h => ⟨h.1, h.2.1, chOK_drop x h.2.2⟩
theorem upd_back (f : Nat → Int32) (i : Nat) (v : Int32) : upd (upd f i v) i (f i) = f := by
  funext j
  unfold upd
  by_cases h : j = i
  · subst h; simp
  · simp [h]
theorem shB_other {f : Nat → Int32} {n wd i b : Nat} {v : Int32} (hw : 1 ≤ wd) (hb : b ≠ i / wd) : shB (tI (upd f i v)) n wd b = shB (tI f) n wd b := by
  unfold shB
  rw [shG_cg (b * wd) (min wd (n - b * wd)) (fun k h1 h2 => ?_)]
  show (upd f i v k).toInt = (f k).toInt
  rw [upd_ne]
  intro e
  subst e
  apply hb
  have h3 : k < (b + 1) * wd := by rw [Nat.succ_mul]; omega
  exact (Nat.div_eq_of_lt_le h1 h3).symm
theorem chOK_put {n wd : Nat} {w : Nat → Int64} {f : Nat → Int32} {H : List (Nat × Int32)} {i : Nat} {v : Int32} (hw : 1 ≤ wd) (hi : i < n) (h : chOK n wd w f H) : chOK n wd (inW w (shB (tI (upd f i v)) n wd (i / wd))) (upd f i v) ((i, f i) :: H) := by
  have hm : ∀ s, wB w s = true → wB (inW w (shB (tI (upd f i v)) n wd (i / wd))) s = true := fun s hs => by rw [wB_in, hs]; rfl
  refine ⟨fun b hb => ?_, hi, ?_⟩
  · by_cases hbi : b = i / wd
    · subst hbi
      rw [wB_in]; simp
    · rw [shB_other hw hbi]
      exact hm _ (chOK_now h b hb)
  · show chOK n wd _ (upd (upd f i v) i (f i)) H
    rw [upd_back]
    exact chOK_mono hm h
