/-! only items in range count -/
section
variable {g g' : Nat → Int} {n : Nat}
theorem lsF_cg (h : ∀ k, k < n → g k = g' k) (i : Nat) : ∀ d, i + d < n → lsF g i d = lsF g' i d
  | 0, _ => rfl
  | d + 1, hd => by
    have ih := lsF_cg h i d (by omega)
    have hi := lsF_in g' i d
    unfold lsF
    rw [ih, h _ (by omega), h (lsF g' i d) (by omega)]
theorem lfF_cg (h : ∀ k, k < n → g k = g' k) (v : Int) : ∀ m, m ≤ n → lfF g v m = lfF g' v m
  | 0, _ => rfl
  | m + 1, hm => by
    have ih := lfF_cg h v m (by omega)
    unfold lfF
    rw [ih, h m (by omega)]
theorem lfE_cg (h : ∀ k, k < n → g k = g' k) {i : Nat} (hi : i < n) : lfE g i = lfE g' i := by
  show lfF g (g i) i = lfF g' (g' i) i
  rw [h i hi, lfF_cg h _ i (by omega)]
theorem rtF_cg (h : ∀ k, k < n → g k = g' k) (v : Int) : ∀ d k, k + d ≤ n → rtF g v d k = rtF g' v d k
  | 0, _, _ => rfl
  | d + 1, k, hk => by
    have ih := rtF_cg h v d (k + 1) (by omega)
    unfold rtF
    rw [ih, h k (by omega)]
theorem rtE_cg (h : ∀ k, k < n → g k = g' k) {i : Nat} (hi : i < n) : rtE g n i = rtE g' n i := by
  show rtF g (g i) (n - (i + 1)) (i + 1) = rtF g' (g' i) (n - (i + 1)) (i + 1)
  rw [h i hi, rtF_cg h _ _ _ (by omega)]
theorem ownF_cg (h : ∀ k, k < n → g k = g' k) {i : Nat} (hi : i < n) : ownF g n i = ownF g' n i := by
  unfold ownF
  rw [lfE_cg h hi, rtE_cg h hi]
theorem suF_cg (h : ∀ k, k < n → g k = g' k) : ∀ k, k ≤ n → suF g n k = suF g' n k
  | 0, _ => rfl
  | k + 1, hk => by
    have ih := suF_cg h k (by omega)
    unfold suF
    rw [ih, h k (by omega), ownF_cg h (by omega : k < n)]
theorem stF_cg (h : ∀ k, k < n → g k = g' k) (a : Nat) {p : Nat} (hp : p < n) : stF g a p = stF g' a p := by
  unfold stF
  rw [lfE_cg h hp]
theorem rkF_cg (h : ∀ k, k < n → g k = g' k) {p : Nat} (hp : p < n) (a : Nat) : ∀ c, a + c ≤ n → rkF g p a c = rkF g' p a c
  | 0, _ => rfl
  | c + 1, hc => by
    have ih := rkF_cg h hp a c (by omega)
    unfold rkF
    rw [ih, h p hp, h (a + c) (by omega)]
theorem ktF_cg (h : ∀ k, k < n → g k = g' k) (a w : Nat) (k : Int) (hw : a + w ≤ n) : ∀ d p, p + d < n → ktF g a w k d p = ktF g' a w k d p
  | 0, _, _ => rfl
  | d + 1, p, hp => by
    have ih := ktF_cg h a w k hw d (p + 1) (by omega)
    unfold ktF
    rw [ih, rkF_cg h (by omega : p < n) a w hw]
theorem pick_cg (h : ∀ k, k < n → g k = g' k) {lf : Int} {rt : Nat} (hl : lf < n) : pick g n lf rt = pick g' n lf rt := by
  unfold pick
  by_cases h1 : n ≤ rt
  · rw [if_pos h1, if_pos h1]
  · rw [if_neg h1, if_neg h1]
    by_cases h2 : lf < 0
    · rw [if_pos h2, if_pos h2]
    · rw [if_neg h2, if_neg h2, h rt (by omega), h lf.toNat (by omega)]
theorem paF_cg (h : ∀ k, k < n → g k = g' k) {i : Nat} (hi : i < n) : paF g n i = paF g' n i := by
  unfold paF
  rw [lfE_cg h hi, rtE_cg h hi]
  have := lfE_in g' i
  exact pick_cg h (by omega)
theorem dpF_cg (h : ∀ k, k < n → g k = g' k) : ∀ (d : Nat) (p : Int), (p = -9 ∨ (0 ≤ p ∧ p < n)) → dpF g n d p = dpF g' n d p
  | 0, _, _ => rfl
  | d + 1, p, hp => by
    unfold dpF
    by_cases h1 : p = -9
    · rw [if_pos h1, if_pos h1]
    · rw [if_neg h1, if_neg h1, paF_cg h (by omega : p.toNat < n), dpF_cg h d _ (paF_in g' (by omega))]
theorem anF_cg (h : ∀ k, k < n → g k = g' k) : ∀ (d : Nat) (p : Int), (p = -9 ∨ (0 ≤ p ∧ p < n)) → anF g n d p = anF g' n d p
  | 0, _, _ => rfl
  | d + 1, p, hp => by
    unfold anF
    by_cases h1 : p = -9
    · rw [if_pos h1, if_pos h1]
    · rw [if_neg h1, if_neg h1, paF_cg h (by omega : p.toNat < n), anF_cg h d _ (paF_in g' (by omega))]
end
theorem shG_cg {g g' : Nat → Int} (a : Nat) : ∀ c, (∀ k, a ≤ k → k < a + c → g k = g' k) → shG g a c = shG g' a c
  | 0, _ => rfl
  | c + 1, h => by
    have ih := shG_cg a c (fun k h1 h2 => h k h1 (by omega))
    unfold shG
    rw [ih, h (a + c) (by omega) (by omega)]
theorem shB_cg {g g' : Nat → Int} {n : Nat} (h : ∀ k, k < n → g k = g' k) (w b : Nat) : shB g n w b = shB g' n w b := by
  unfold shB
  rw [shG_cg (b * w) _ (fun k h1 h2 => h k (by omega))]
theorem unF_cg {q q' : Nat → Int} : ∀ b, (∀ k, k < b → q k = q' k) → unF q b = unF q' b
  | 0, _ => rfl
  | b + 1, h => by
    have ih := unF_cg b (fun k hk => h k (by omega))
    unfold unF
    rw [ih]
    by_cases hc : ∀ k, k < b → q k ≠ q b
    · rw [if_pos hc, if_pos (fun k hk => by rw [← h k (by omega), ← h b (by omega)]; exact hc k hk)]
    · rw [if_neg hc, if_neg (fun z => hc (fun k hk => by rw [h k (by omega), h b (by omega)]; exact z k hk))]
theorem biF_cg {q q' : Nat → Int} (w b : Nat) (h : ∀ k, k < b → q k = q' k) : biF q w b = biF q' w b := by
  unfold biF
  rw [unF_cg b h]
theorem dgF_cg (h0 : Int64) {f f' : Nat → Int32} : ∀ k, (∀ j, j < k → f j = f' j) → dgF h0 f k = dgF h0 f' k
  | 0, _ => rfl
  | k + 1, h => by
    have ih := dgF_cg h0 k (fun j hj => h j (by omega))
    unfold dgF
    rw [ih, h k (by omega)]
theorem dgc_cg {v v' : Nat → Int} : ∀ k, (∀ j, j < k → v j = v' j) → dgc v k = dgc v' k
  | 0, _ => rfl
  | k + 1, h => by
    have ih := dgc_cg k (fun j hj => h j (by omega))
    unfold dgc
    rw [ih, h k (by omega)]
theorem dgr_cg (h0 : Int64) {nr : Nat → Int} {r0 r1 : Nat → Nat → Int32} : ∀ k, (∀ r, r < k → ∀ j, j < (nr r).toNat → r0 r j = r1 r j) → dgr h0 nr r0 k = dgr h0 nr r1 k
  | 0, _ => rfl
  | k + 1, h => by
    have ih := dgr_cg h0 k (fun r hr => h r (by omega))
    unfold dgr
    rw [ih, dgF_cg _ _ (h k (by omega))]
theorem rwF_cg {a b : Nat → Int} : ∀ k, (∀ j, j < k → a j = b j) → rwF a k = rwF b k
  | 0, _ => rfl
  | k + 1, h => by
    have ih := rwF_cg k (fun j hj => h j (by omega))
    unfold rwF
    rw [ih, h k (by omega)]
/-! each rank is someone's -/
def bf (g : Nat → Int) (q p : Nat) : Prop := g q < g p ∨ (q < p ∧ g q = g p)
theorem rkF_mono {g : Nat → Int} {a p p' : Nat} : ∀ c, (∀ q, a ≤ q → q < a + c → bf g q p → bf g q p') → rkF g p a c ≤ rkF g p' a c
  | 0, _ => Int.le_refl _
  | c + 1, h => by
    have ih := rkF_mono (p := p) (p' := p') c (fun q h1 h2 => h q h1 (by omega))
    have h0 := h (a + c) (by omega) (by omega)
    unfold bf at h0
    unfold rkF
    by_cases h1 : g (a + c) < g p ∨ (a + c < p ∧ g (a + c) = g p)
    · rw [if_pos h1, if_pos (h0 h1)]; omega
    · rw [if_neg h1]
      split <;> omega
theorem rkF_strict {g : Nat → Int} {a p p' q0 : Nat} : ∀ c, (∀ q, a ≤ q → q < a + c → bf g q p → bf g q p') → a ≤ q0 → q0 < a + c → ¬ bf g q0 p → bf g q0 p' → rkF g p a c + 1 ≤ rkF g p' a c
  | 0, _, h1, h2, _, _ => by omega
  | c + 1, h, h1, h2, h3, h4 => by
    by_cases hq : q0 = a + c
    · subst hq
      have ih := rkF_mono (p := p) (p' := p') c (fun q h1 h2 => h q h1 (by omega))
      unfold bf at h3 h4
      unfold rkF
      rw [if_neg h3, if_pos h4]
      omega
    · have ih := rkF_strict (p := p) (p' := p') c (fun q h1 h2 => h q h1 (by omega)) h1 (by omega) h3 h4
      have h0 := h (a + c) (by omega) (by omega)
      unfold bf at h0
      unfold rkF
      by_cases h1 : g (a + c) < g p ∨ (a + c < p ∧ g (a + c) = g p)
      · rw [if_pos h1, if_pos (h0 h1)]; omega
      · rw [if_neg h1]
        split <;> omega
theorem rk_onto (g : Nat → Int) (a : Nat) : ∀ (c : Nat) (k : Int), 0 ≤ k → k < c → ∃ p, a ≤ p ∧ p < a + c ∧ rkF g p a c = k
  | 0, _, h1, h2 => by omega
  | c + 1, k, h1, h2 => by
    have hs : ∀ p, rkF g p a (c + 1) = rkF g p a c + (if g (a + c) < g p ∨ (a + c < p ∧ g (a + c) = g p) then 1 else 0) := fun _ => rfl
    have hx : rkF g (a + c) a (c + 1) = rkF g (a + c) a c := by
      rw [hs, if_neg (by omega)]; omega
    have hr := rkF_in g (a + c) a c
    rcases Int.lt_trichotomy k (rkF g (a + c) a c) with hk | hk | hk
    · obtain ⟨p, p1, p2, p3⟩ := rk_onto g a c k h1 (by omega)
      refine ⟨p, p1, by omega, ?_⟩
      rw [hs, if_neg, p3]
      · omega
      · intro hb
        have := rkF_mono (g := g) (a := a) (p := a + c) (p' := p) c (fun q q1 q2 q3 => by unfold bf at *; omega)
        omega
    · exact ⟨a + c, by omega, by omega, by rw [hx, hk]⟩
    · obtain ⟨p, p1, p2, p3⟩ := rk_onto g a c (k - 1) (by omega) (by omega)
      refine ⟨p, p1, by omega, ?_⟩
      rw [hs, if_pos, p3]
      · omega
      · apply Classical.byContradiction
        intro hb
        have := rkF_strict (g := g) (a := a) (p := p) (p' := a + c) (q0 := p) c (fun q q1 q2 q3 => by unfold bf at *; omega) p1 p2 (by unfold bf; omega) (by unfold bf; omega)
        omega
theorem kt_hx (g : Nat → Int) {i j : Nat} {k : Int} (hij : i ≤ j) (hk : 0 ≤ k ∧ k ≤ (j : Int) - i) : ∃ q, i ≤ q ∧ q ≤ j ∧ rkF g q i (j + 1 - i) = k := by
  obtain ⟨p, h1, h2, h3⟩ := rk_onto g i (j + 1 - i) k hk.1 (by omega)
  exact ⟨p, h1, by omega, h3⟩
/-! the tree over the items -/
theorem lsF_le (g : Nat → Int) (a : Nat) : ∀ d k, a ≤ k → k ≤ a + d → g (lsF g a d) ≤ g k
  | 0, k, h1, h2 => by
    obtain rfl : k = a := by omega
    exact Int.le_refl _
  | d + 1, k, h1, h2 => by
    unfold lsF
    by_cases h : g (a + d + 1) < g (lsF g a d)
    · rw [if_pos h]
      by_cases hk : k = a + d + 1
      · subst hk; exact Int.le_refl _
      · have := lsF_le g a d k h1 (by omega); omega
    · rw [if_neg h]
      by_cases hk : k = a + d + 1
      · subst hk; omega
      · exact lsF_le g a d k h1 (by omega)
theorem lsF_lt (g : Nat → Int) (a : Nat) : ∀ d k, a ≤ k → k < lsF g a d → g (lsF g a d) < g k
  | 0, k, h1, h2 => by
    unfold lsF at h2; omega
  | d + 1, k, h1, h2 => by
    unfold lsF at h2 ⊢
    by_cases h : g (a + d + 1) < g (lsF g a d)
    · rw [if_pos h] at h2 ⊢
      have := lsF_le g a d k h1 (by omega); omega
    · rw [if_neg h] at h2 ⊢
      exact lsF_lt g a d k h1 h2
theorem lfF_is {g : Nat → Int} {v : Int} {a : Nat} (h2 : a = 0 ∨ g (a - 1) ≤ v) : ∀ m, a ≤ m → (∀ k, a ≤ k → k < m → v < g k) → lfF g v m = (a : Int) - 1
  | 0, h1, _ => by
    obtain rfl : a = 0 := by omega
    rfl
  | m + 1, h1, h3 => by
    unfold lfF
    by_cases ha : a = m + 1
    · subst ha
      have : g m ≤ v := by
        rcases h2 with h | h
        · omega
        · exact h
      rw [if_neg (by omega)]; omega
    · rw [if_pos (h3 m (by omega) (by omega))]
      exact lfF_is h2 m (by omega) (fun k q1 q2 => h3 k q1 (by omega))
theorem rtF_is {g : Nat → Int} {v : Int} {e n : Nat} (h2 : e = n ∨ g e < v) : ∀ d k, k ≤ e → k + d = n → e ≤ n → (∀ j, k ≤ j → j < e → v ≤ g j) → rtF g v d k = e
  | 0, k, h1, h3, h4, _ => by
    show k = e
    omega
  | d + 1, k, h1, h3, h4, h5 => by
    unfold rtF
    by_cases hk : k = e
    · subst hk
      rw [if_neg (by omega)]
    · rw [if_pos (h5 k (by omega) (by omega))]
      exact rtF_is h2 d (k + 1) (by omega) (by omega) h4 (fun j q1 q2 => h5 j (by omega) q2)
def runOK (g : Nat → Int) (n a b : Nat) : Prop := a ≤ b ∧ b < n ∧ (a = 0 ∨ ∀ k, a ≤ k → k ≤ b → g (a - 1) ≤ g k) ∧ (b + 1 = n ∨ ∀ k, a ≤ k → k ≤ b → g (b + 1) < g k)
theorem run_pa {g : Nat → Int} {n a b : Nat} (h : runOK g n a b) : paF g n (lsF g a (b - a)) = pick g n ((a : Int) - 1) (b + 1) := by
  obtain ⟨h1, h2, h3, h4⟩ := h
  have hi := lsF_in g a (b - a)
  have e1 : lfE g (lsF g a (b - a)) = (a : Int) - 1 := lfF_is (by
    rcases h3 with h | h
    · exact Or.inl h
    · exact Or.inr (h _ hi.1 (by omega))) _ hi.1 (fun k q1 q2 => lsF_lt g a _ k q1 q2)
  have e2 : rtE g n (lsF g a (b - a)) = b + 1 := rtF_is (n := n) (by
    rcases h4 with h | h
    · exact Or.inl h
    · exact Or.inr (h _ hi.1 (by omega))) _ _ (by omega) (by omega) (by omega) (fun j q1 q2 => lsF_le g a _ j (by omega) (by omega))
  unfold paF
  rw [e1, e2]
theorem run_l {g : Nat → Int} {n a b : Nat} (h : runOK g n a b) (hl : a < lsF g a (b - a)) : runOK g n a (lsF g a (b - a) - 1) ∧ pick g n ((a : Int) - 1) (lsF g a (b - a) - 1 + 1) = (lsF g a (b - a) : Int) := by
  obtain ⟨h1, h2, h3, h4⟩ := h
  have hi := lsF_in g a (b - a)
  refine ⟨⟨by omega, by omega, ?_, Or.inr (fun k q1 q2 => ?_)⟩, ?_⟩
  · rcases h3 with h | h
    · exact Or.inl h
    · exact Or.inr (fun k q1 q2 => h k q1 (by omega))
  · rw [show lsF g a (b - a) - 1 + 1 = lsF g a (b - a) by omega]
    exact lsF_lt g a _ k q1 (by omega)
  · rw [show lsF g a (b - a) - 1 + 1 = lsF g a (b - a) by omega]
    unfold pick
    rw [if_neg (by omega)]
    by_cases ha : (a : Int) - 1 < 0
    · rw [if_pos ha]
    · rw [if_neg ha, if_neg]
      rcases h3 with h | h
      · omega
      · have := h (lsF g a (b - a)) hi.1 (by omega)
        rw [show ((a : Int) - 1).toNat = a - 1 by omega]
        omega
theorem run_r {g : Nat → Int} {n a b : Nat} (h : runOK g n a b) (hl : lsF g a (b - a) < b) : runOK g n (lsF g a (b - a) + 1) b ∧ pick g n (((lsF g a (b - a) + 1 : Nat) : Int) - 1) (b + 1) = (lsF g a (b - a) : Int) := by
  obtain ⟨h1, h2, h3, h4⟩ := h
  have hi := lsF_in g a (b - a)
  refine ⟨⟨by omega, h2, Or.inr (fun k q1 q2 => ?_), ?_⟩, ?_⟩
  · rw [Nat.add_sub_cancel]
    exact lsF_le g a _ k (by omega) (by omega)
  · rcases h4 with h | h
    · exact Or.inl h
    · exact Or.inr (fun k q1 q2 => h k (by omega) q2)
  · rw [show ((lsF g a (b - a) + 1 : Nat) : Int) - 1 = (lsF g a (b - a) : Int) by omega]
    unfold pick
    by_cases hb : n ≤ b + 1
    · rw [if_pos hb, if_neg (by omega)]
    · rw [if_neg hb, if_neg (by omega), if_pos]
      rcases h4 with h | h
      · omega
      · rw [Int.toNat_natCast]
        exact h _ hi.1 (by omega)
theorem dm_is {g : Nat → Int} {n i : Nat} : ∀ (d a b : Nat) (s : Nat × Int), runOK g n a b → a ≤ i → i ≤ b → b - a < d → s.1 + (b - a + 1) ≤ n → s.2 = pick g n ((a : Int) - 1) (b + 1) → (∀ D, s.1 ≤ D → dpF g n D s.2 = s.1) →
    (dmF g i d a b s).2 = paF g n i ∧ (dmF g i d a b s).1 < n ∧ ∀ D, (dmF g i d a b s).1 ≤ D → dpF g n D (dmF g i d a b s).2 = (dmF g i d a b s).1
  | 0, _, _, _, _, _, _, h, _, _, _ => by omega
  | d + 1, a, b, s, hr, h1, h2, h3, h4, h5, h6 => by
    have hi := lsF_in g a (b - a)
    have hpa := run_pa hr
    have hstep : ∀ D, s.1 + 1 ≤ D → dpF g n D (lsF g a (b - a) : Int) = s.1 + 1 := by
      intro D hD
      obtain ⟨D, rfl⟩ : ∃ q, D = q + 1 := ⟨D - 1, by omega⟩
      unfold dpF
      rw [if_neg (by omega), Int.toNat_natCast, hpa, ← h5, h6 D (by omega)]
    unfold dmF
    by_cases he : lsF g a (b - a) = i
    · rw [if_pos he]
      rw [he] at hpa
      exact ⟨by rw [hpa, h5], by omega, h6⟩
    · rw [if_neg he]
      by_cases hl : i < lsF g a (b - a)
      · rw [if_pos hl]
        obtain ⟨r1, r2⟩ := run_l hr (by omega)
        exact dm_is d a _ _ r1 h1 (by omega) (by omega) (by show s.1 + 1 + _ ≤ n; omega) r2.symm hstep
      · rw [if_neg hl]
        obtain ⟨r1, r2⟩ := run_r hr (by omega)
        exact dm_is d _ b _ r1 (by omega) h2 (by omega) (by show s.1 + 1 + _ ≤ n; omega) r2.symm hstep
theorem dm_top (g : Nat → Int) {n i : Nat} (hi : i < n) : (dmF g i n 0 (n - 1) (0, -9)).2 = paF g n i ∧ (dmF g i n 0 (n - 1) (0, -9)).1 < n ∧ dpF g n n (paF g n i) = (dmF g i n 0 (n - 1) (0, -9)).1 := by
  have h := dm_is (g := g) (n := n) (i := i) n 0 (n - 1) (0, -9) ⟨by omega, by omega, Or.inl rfl, Or.inl (by omega)⟩ (by omega) (by omega) (by omega) (by show 0 + _ ≤ n; omega) (by
    unfold pick
    rw [if_pos (by omega), if_pos (by omega)]) (fun D _ => by
    cases D with
    | zero => rfl
    | succ D => exact if_pos rfl)
  refine ⟨h.1, h.2.1, ?_⟩
  rw [← h.1]
  exact h.2.2 n (by omega)
theorem an_m9 (g : Nat → Int) (n : Nat) : ∀ d, anF g n d (-9) = -9
  | 0 => rfl
  | d + 1 => if_pos rfl
theorem an_end (g : Nat → Int) (n : Nat) : ∀ (D : Nat) (p : Int) (D' : Nat), dpF g n D p < D → dpF g n D p ≤ D' → anF g n D' p = -9
  | 0, _, _, h, _ => by omega
  | D + 1, p, D', h1, h2 => by
    by_cases hp : p = -9
    · subst hp; exact an_m9 g n D'
    · have e : dpF g n (D + 1) p = dpF g n D (paF g n p.toNat) + 1 := if_neg hp
      rw [e] at h1 h2
      obtain ⟨D', rfl⟩ : ∃ q, D' = q + 1 := ⟨D' - 1, by omega⟩
      rw [show anF g n (D' + 1) p = anF g n D' (paF g n p.toNat) from if_neg hp]
      exact an_end g n D _ D' (by omega) (by omega)
theorem am_an (g : Nat → Int) (n : Nat) : ∀ (d : Nat) (p : Int), (p = -9 ∨ (0 ≤ p ∧ p < n)) → amF g n d p = anF g n d p
  | 0, _, _ => rfl
  | d + 1, p, hp => by
    unfold amF anF
    by_cases h : p = -9
    · rw [if_pos h, if_pos h]
    · rw [if_neg h, if_neg h, (dm_top g (by omega : p.toNat < n)).1]
      exact am_an g n d _ (paF_in g (by omega))
theorem an_min (g : Nat → Int) {n i : Nat} (hi : i < n) (d : Nat) : anF g n (min d n) (i : Int) = anF g n d (i : Int) := by
  by_cases h : d ≤ n
  · rw [Nat.min_eq_left h]
  · obtain ⟨_, h2, h3⟩ := dm_top g hi
    obtain ⟨n', rfl⟩ : ∃ q, n = q + 1 := ⟨n - 1, by omega⟩
    obtain ⟨d', rfl⟩ : ∃ q, d = q + 1 := ⟨d - 1, by omega⟩
    rw [Nat.min_eq_right (by omega)]
    have e : ∀ k, anF g (n' + 1) (k + 1) (i : Int) = anF g (n' + 1) k (paF g (n' + 1) i) := fun k => by
      show (if (i : Int) = -9 then _ else _) = _
      rw [if_neg (by omega), Int.toNat_natCast]
    rw [e, e, an_end g _ (n' + 1) _ n' (by omega) (by omega), an_end g _ (n' + 1) _ d' (by omega) (by omega)]
