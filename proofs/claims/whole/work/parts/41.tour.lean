/-! sums -/
def sg (f : Nat → Nat) : Nat → Nat
  | 0 => 0
  | k + 1 => sg f k + f k
theorem sg_cg {f g : Nat → Nat} : ∀ n, (∀ k, k < n → f k = g k) → sg f n = sg g n
  | 0, _ => rfl
  | n + 1, h => by
    unfold sg
    rw [sg_cg n (fun k hk => h k (by omega)), h n (by omega)]
theorem sg_add (f g : Nat → Nat) : ∀ n, sg (fun k => f k + g k) n = sg f n + sg g n
  | 0 => rfl
  | n + 1 => by
    have := sg_add f g n
    unfold sg
    omega
theorem sg_zero {f : Nat → Nat} : ∀ n, (∀ k, k < n → f k = 0) → sg f n = 0
  | 0, _ => rfl
  | n + 1, h => by
    unfold sg
    rw [sg_zero n (fun k hk => h k (by omega)), h n (by omega)]
theorem sg_one (a : Nat) : ∀ n, sg (fun k => if k = a then 1 else 0) n = if a < n then 1 else 0
  | 0 => by rw [if_neg (by omega)]; rfl
  | n + 1 => by
    have := sg_one a n
    unfold sg
    rw [this]
    by_cases h : n = a
    · subst h; rw [if_neg (by omega), if_pos rfl, if_pos (by omega)]
    · rw [if_neg h]
      by_cases h2 : a < n
      · rw [if_pos h2, if_pos (by omega)]
      · rw [if_neg h2, if_neg (by omega)]
theorem sg_comm (f : Nat → Nat → Nat) (m : Nat) : ∀ n, sg (fun i => sg (fun j => f i j) m) n = sg (fun j => sg (fun i => f i j) n) m
  | 0 => (sg_zero m (fun _ _ => rfl)).symm
  | n + 1 => by
    show sg (fun i => sg (fun j => f i j) m) n + sg (fun j => f n j) m = sg (fun j => sg (fun i => f i j) n + f n j) m
    rw [sg_comm f m n, sg_add]
theorem sg_le {f : Nat → Nat} : ∀ n, (∀ k, k < n → f k ≤ 1) → sg f n ≤ n
  | 0, _ => Nat.le_refl _
  | n + 1, h => by
    have := sg_le n (fun k hk => h k (by omega))
    have := h n (by omega)
    unfold sg
    omega
theorem sg_full {f : Nat → Nat} : ∀ n, (∀ k, k < n → f k ≤ 1) → sg f n = n → ∀ k, k < n → f k = 1
  | 0, _, _, _, hk => absurd hk (Nat.not_lt_zero _)
  | n + 1, h, e, k, hk => by
    have h1 := sg_le n (fun k hk => h k (by omega))
    have h2 := h n (by omega)
    unfold sg at e
    by_cases hkn : k = n
    · subst hkn; omega
    · exact sg_full n (fun k hk => h k (by omega)) (by omega) k (by omega)
theorem sg_most {c : Nat → Prop} [DecidablePred c] : ∀ n, (∀ i j, i < j → j < n → c i → ¬ c j) → sg (fun k => if c k then 1 else 0) n ≤ 1
  | 0, _ => Nat.zero_le _
  | n + 1, h => by
    have ih := sg_most n (fun i j h1 h2 => h i j h1 (by omega))
    unfold sg
    by_cases hn : c n
    · rw [sg_zero n (fun k hk => if_neg (fun hc => h k n hk (by omega) hc hn)), if_pos hn]; omega
    · rw [if_neg hn]; omega
theorem sg_ex {c : Nat → Prop} [DecidablePred c] : ∀ n, sg (fun k => if c k then 1 else 0) n = 1 → ∃ k, k < n ∧ c k
  | 0, h => by simp [sg] at h
  | n + 1, h => by
    unfold sg at h
    by_cases hn : c n
    · exact ⟨n, by omega, hn⟩
    · rw [if_neg hn] at h
      obtain ⟨k, h1, h2⟩ := sg_ex n (by omega)
      exact ⟨k, by omega, h2⟩
/-- as many as there are places, no two in one: each place is taken -/
theorem onto {f : Nat → Nat} {n : Nat} (h : ∀ i, i < n → f i < n) (h2 : ∀ i j, i < j → j < n → f i ≠ f j) {y : Nat} (hy : y < n) : ∃ i, i < n ∧ f i = y := by
  have e1 : sg (fun y => sg (fun i => if f i = y then 1 else 0) n) n = n := by
    rw [sg_comm (fun y i => if f i = y then 1 else 0) n n]
    rw [sg_cg (g := fun _ => 1) n (fun i hi => ?_)]
    · have : ∀ m, sg (fun _ => 1) m = m := by
        intro m
        induction m with
        | zero => rfl
        | succ m ih => show sg (fun _ => 1) m + 1 = m + 1; rw [ih]
      exact this n
    · rw [sg_cg (g := fun k => if k = f i then 1 else 0) n (fun k _ => by
        by_cases hk : k = f i
        · rw [if_pos hk, if_pos hk.symm]
        · rw [if_neg hk, if_neg (fun e => hk e.symm)]), sg_one, if_pos (h i hi)]
  have e2 := sg_full n (fun y _ => sg_most (c := fun i => f i = y) n (fun i j q1 q2 q3 q4 => h2 i j q1 q2 (q3.trans q4.symm))) e1 y hy
  exact sg_ex (c := fun i => f i = y) n e2
/-! the tree told by parents -/
theorem srF_fuel (p : Nat → Int) : ∀ (d u d' : Nat), srF p d u < d → d ≤ d' → srF p d' u = srF p d u
  | 0, _, _, h, _ => absurd h (Nat.not_lt_zero _)
  | d + 1, u, d', h, h2 => by
    obtain ⟨e, rfl⟩ : ∃ e, d' = e + 1 := ⟨d' - 1, by omega⟩
    by_cases hq : p u = -1
    · rw [show srF p (d + 1) u = 0 from if_pos hq, show srF p (e + 1) u = 0 from if_pos hq]
    · have e1 : srF p (d + 1) u = srF p d (p u).toNat + 1 := if_neg hq
      have e2 : srF p (e + 1) u = srF p e (p u).toNat + 1 := if_neg hq
      rw [e1] at h
      rw [e1, e2, srF_fuel p d _ e (by omega) (by omega)]
def Tr (p : Nat → Int) (n : Nat) : Prop := inT p n ∧ ∀ k, k < n → srF p n k < n
section
variable {p : Nat → Int} {n : Nat}
theorem sr_up (T : Tr p n) {k : Nat} (hk : k < n) (h : ¬ p k = -1) : srF p n k = srF p n (p k).toNat + 1 ∧ (p k).toNat < n ∧ 0 ≤ p k := by
  have hi := T.1 k hk
  obtain ⟨m, rfl⟩ : ∃ m, n = m + 1 := ⟨n - 1, by omega⟩
  have e : srF p (m + 1) k = srF p m (p k).toNat + 1 := if_neg h
  have hs := T.2 k hk
  rw [e] at hs
  rw [srF_fuel p m (p k).toNat (m + 1) (by omega) (by omega)]
  exact ⟨e, by omega, by omega⟩
theorem sr_0 {k : Nat} (h : p k = -1) : srF p n k = 0 := by
  cases n with
  | zero => rfl
  | succ m => exact if_pos h
theorem sr_root (T : Tr p n) {k : Nat} (hk : k < n) (h : srF p n k = 0) : p k = -1 := by
  by_cases hq : p k = -1
  · exact hq
  · have := (sr_up T hk hq).1; omega
theorem up_sr (T : Tr p n) {u : Nat} (hu : u < n) : ∀ j, j ≤ srF p n u → srF p n (upF p j u) = srF p n u - j
  | 0, _ => rfl
  | j + 1, h => by
    have ih := up_sr T hu j (by omega)
    obtain ⟨h1, h2⟩ := up_in T.1 n u hu j (by omega)
    have h3 := (sr_up T h1 (h2 (by omega))).1
    rw [upF_s]
    omega
theorem upF_add (p : Nat → Int) (a : Nat) : ∀ (b u : Nat), upF p (a + b) u = upF p a (upF p b u)
  | 0, _ => rfl
  | b + 1, u => upF_add p a b (p u).toNat
def bel (p : Nat → Int) (n k u : Nat) : Prop := ∃ j, j ≤ srF p n k ∧ upF p j k = u
theorem bel_iff (T : Tr p n) {k u : Nat} (hk : k < n) : (srF p n u ≤ srF p n k ∧ upF p (srF p n k - srF p n u) k = u) ↔ bel p n k u := by
  constructor
  · intro h
    exact ⟨_, by omega, h.2⟩
  · rintro ⟨j, h1, rfl⟩
    rw [up_sr T hk j h1]
    refine ⟨by omega, ?_⟩
    rw [show srF p n k - (srF p n k - j) = j by omega]
theorem bel_refl (k : Nat) : bel p n k k := ⟨0, Nat.zero_le _, rfl⟩
theorem bel_sr (T : Tr p n) {k u : Nat} (hk : k < n) (h : bel p n k u) : srF p n u ≤ srF p n k ∧ u < n := by
  obtain ⟨j, h1, rfl⟩ := h
  rw [up_sr T hk j h1]
  exact ⟨by omega, (up_in T.1 n k hk j h1).1⟩
theorem bel_trans (T : Tr p n) {k u v : Nat} (hk : k < n) (h : bel p n k u) (h2 : bel p n u v) : bel p n k v := by
  obtain ⟨j, h1, rfl⟩ := h
  obtain ⟨i, h3, rfl⟩ := h2
  rw [up_sr T hk j h1] at h3
  exact ⟨i + j, by omega, upF_add p i j k⟩
theorem bel_up (T : Tr p n) {k u : Nat} (hk : k < n) (h : bel p n k u) (hne : k ≠ u) : ¬ p k = -1 ∧ bel p n (p k).toNat u := by
  obtain ⟨j, h1, h2⟩ := h
  cases j with
  | zero => exact absurd h2 hne
  | succ j =>
    have hq : ¬ p k = -1 := fun e => by rw [sr_0 e] at h1; omega
    exact ⟨hq, j, by have := (sr_up T hk hq).1; omega, h2⟩
theorem bel_son (T : Tr p n) {k : Nat} (hk : k < n) (h : ¬ p k = -1) : bel p n k (p k).toNat := ⟨1, by have := (sr_up T hk h).1; omega, rfl⟩
theorem bel_eq (T : Tr p n) {k u : Nat} (hk : k < n) (h : bel p n k u) (e : srF p n u = srF p n k) : k = u := by
  have h2 := ((bel_iff T hk).mpr h).2
  rw [e, Nat.sub_self] at h2
  exact h2
def bd (p : Nat → Int) (n k u : Nat) : Nat := if srF p n u ≤ srF p n k ∧ upF p (srF p n k - srF p n u) k = u then 1 else 0
theorem bd_t (T : Tr p n) {k u : Nat} (hk : k < n) (h : bel p n k u) : bd p n k u = 1 := if_pos ((bel_iff T hk).mpr h)
theorem bd_f (T : Tr p n) {k u : Nat} (hk : k < n) (h : ¬ bel p n k u) : bd p n k u = 0 := if_neg (fun z => h ((bel_iff T hk).mp z))
theorem be_sg (u : Nat) : ∀ m, beF p n u m = sg (fun k => bd p n k u) m
  | 0 => rfl
  | m + 1 => by
    show beF p n u m + _ = sg _ m + _
    rw [be_sg u m]; rfl
theorem bd_split (T : Tr p n) {k u : Nat} (hk : k < n) (hu : u < n) : bd p n k u = (if k = u then 1 else 0) + sg (fun s => if p s = (u : Int) then bd p n k s else 0) n := by
  have hson : ∀ s, s < n → p s = (u : Int) → srF p n s = srF p n u + 1 ∧ bel p n s u := by
    intro s hs e
    have h1 := sr_up T hs (by omega)
    have h2 := bel_son T hs (by omega)
    rw [e, Int.toNat_natCast] at h1 h2
    exact ⟨h1.1, h2⟩
  by_cases hb : bel p n k u
  · rw [bd_t T hk hb]
    by_cases hku : k = u
    · subst hku
      rw [if_pos rfl, sg_zero n (fun s hs => ?_)]
      by_cases e : p s = (k : Int)
      · rw [if_pos e, bd_f T hk]
        intro h
        have := (bel_sr T hk h).1
        have := (hson s hs e).1
        omega
      · rw [if_neg e]
    · rw [if_neg hku]
      obtain ⟨j, h1, h2⟩ := hb
      obtain ⟨j, rfl⟩ : ∃ i, j = i + 1 := ⟨j - 1, by
        cases j with
        | zero => exact absurd h2 hku
        | succ j => rfl⟩
      obtain ⟨g1, g2⟩ := up_in T.1 n k hk j (by omega)
      have g3 := sr_up T g1 (g2 (by omega))
      have e0 : p (upF p j k) = (u : Int) := by
        rw [upF_s] at h2
        omega
      have hj := up_sr T hk j (by omega)
      rw [sg_cg (g := fun s => if s = upF p j k then 1 else 0) n (fun s hs => ?_), sg_one, if_pos g1]
      by_cases es : s = upF p j k
      · subst es
        rw [if_pos e0, if_pos rfl, bd_t T hk ⟨j, by omega, rfl⟩]
      · rw [if_neg es]
        by_cases e : p s = (u : Int)
        · rw [if_pos e, bd_f T hk]
          intro h
          have h5 := ((bel_iff T hk).mpr h).2
          have h6 := (hson s hs e).1
          have h7 := (hson _ g1 e0).1
          rw [h6, ← h7, hj, show srF p n k - (srF p n k - j) = j by omega] at h5
          exact es h5.symm
        · rw [if_neg e]
  · rw [bd_f T hk hb, if_neg (fun e => hb (by rw [e]; exact bel_refl u)), sg_zero n (fun s hs => ?_)]
    by_cases e : p s = (u : Int)
    · rw [if_pos e, bd_f T hk]
      intro h
      exact hb (bel_trans T hk h (hson s hs e).2)
    · rw [if_neg e]
/-- below the sons of u that are less than m -/
def sS (p : Nat → Int) (n : Nat) (u : Int) (m : Nat) : Nat := sg (fun s => if p s = u then beF p n s n else 0) m
theorem be_split (T : Tr p n) {u : Nat} (hu : u < n) : beF p n u n = 1 + sS p n (u : Int) n := by
  rw [be_sg, sg_cg (g := fun k => (if k = u then 1 else 0) + sg (fun s => if p s = (u : Int) then bd p n k s else 0) n) n (fun k hk => bd_split T hk hu), sg_add, sg_one, if_pos hu, sg_comm (fun k s => if p s = (u : Int) then bd p n k s else 0) n n]
  congr 1
  apply sg_cg
  intro s hs
  by_cases e : p s = (u : Int)
  · rw [if_pos e, be_sg]
    exact sg_cg n (fun k _ => if_pos e)
  · rw [if_neg e]
    exact sg_zero n (fun k _ => if_neg e)
theorem be_pos (T : Tr p n) {u : Nat} (hu : u < n) : 1 ≤ beF p n u n := by rw [be_split T hu]; omega
theorem sS_mono (u : Int) : ∀ {a b : Nat}, a ≤ b → sS p n u a ≤ sS p n u b
  | a, 0, h => by
    obtain rfl : a = 0 := by omega
    exact Nat.le_refl _
  | a, b + 1, h => by
    by_cases e : a = b + 1
    · subst e; exact Nat.le_refl _
    · have := sS_mono u (show a ≤ b by omega)
      show sS p n u a ≤ sS p n u b + _
      omega
theorem sS_gap (u : Int) {a : Nat} : ∀ b, a ≤ b → (∀ s, a ≤ s → s < b → ¬ p s = u) → sS p n u b = sS p n u a
  | 0, h, _ => by
    obtain rfl : a = 0 := by omega
    rfl
  | b + 1, h, h2 => by
    by_cases e : a = b + 1
    · subst e; rfl
    · show sS p n u b + (if p b = u then beF p n b n else 0) = _
      rw [sS_gap u b (by omega) (fun s h3 h4 => h2 s h3 (by omega)), if_neg (h2 b (by omega) (by omega))]
      rfl
theorem sbF_is (u : Int) : ∀ d k, (∀ s, k ≤ s → s < sbF p u d k → ¬ p s = u) ∧ (sbF p u d k < k + d → p (sbF p u d k) = u)
  | 0, k => ⟨fun s h1 h2 => by unfold sbF at h2; omega, fun h => by unfold sbF at h; omega⟩
  | d + 1, k => by
    obtain ⟨i1, i2⟩ := sbF_is u d (k + 1)
    by_cases e : p k = u
    · have e1 : sbF p u (d + 1) k = k := if_pos e
      rw [e1]
      exact ⟨fun s h1 h2 => by omega, fun _ => e⟩
    · have e1 : sbF p u (d + 1) k = sbF p u d (k + 1) := if_neg e
      rw [e1]
      refine ⟨fun s h1 h2 => ?_, fun h => i2 (by omega)⟩
      by_cases es : s = k
      · subst es; exact e
      · exact i1 s (by omega) h2
/-- when a node is met first -/
def fM (p : Nat → Int) (n u : Nat) : Int := fmF p n n u (srF p n u : Nat)
theorem br_sS (t : Nat) : ∀ m, brF p n t m = 2 * (sS p n (p t) m : Int)
  | 0 => rfl
  | m + 1 => by
    show brF p n t m + (if p m = p t then 2 * (beF p n m n : Int) else 0) = 2 * ((sS p n (p t) m + (if p m = p t then beF p n m n else 0) : Nat) : Int)
    rw [br_sS t m]
    by_cases e : p m = p t
    · rw [if_pos e, if_pos e]; omega
    · rw [if_neg e, if_neg e]; omega
theorem fm_acc : ∀ (d t : Nat) (z : Int), fmF p n d t z = z + fmF p n d t 0
  | 0, _, z => by show z = z + 0; omega
  | d + 1, t, z => by
    unfold fmF
    by_cases e : p t = -1
    · rw [if_pos e, if_pos e]; omega
    · rw [if_neg e, if_neg e, fm_acc d _ (z + _), fm_acc d _ (0 + _)]; omega
theorem fm_fuel : ∀ (d t d' : Nat) (z : Int), srF p d t < d → d ≤ d' → fmF p n d' t z = fmF p n d t z
  | 0, _, _, _, h, _ => absurd h (Nat.not_lt_zero _)
  | d + 1, t, d', z, h, h2 => by
    obtain ⟨e, rfl⟩ : ∃ e, d' = e + 1 := ⟨d' - 1, by omega⟩
    unfold fmF
    by_cases hq : p t = -1
    · rw [if_pos hq, if_pos hq]
    · have e1 : srF p (d + 1) t = srF p d (p t).toNat + 1 := if_neg hq
      rw [if_neg hq, if_neg hq, fm_fuel d _ e _ (by omega) (by omega)]
theorem fM_root {r : Nat} (h : p r = -1) : fM p n r = 0 := by
  unfold fM
  rw [sr_0 h]
  cases n with
  | zero => rfl
  | succ m => exact if_pos h
theorem fM_son (T : Tr p n) {s : Nat} (hs : s < n) (h : ¬ p s = -1) : fM p n s = fM p n (p s).toNat + 1 + 2 * (sS p n (p s) s : Int) := by
  have h1 := sr_up T hs h
  obtain ⟨m, rfl⟩ : ∃ m, n = m + 1 := ⟨n - 1, by omega⟩
  have e : fmF p (m + 1) (m + 1) s (srF p (m + 1) s : Nat) = fmF p (m + 1) m (p s).toNat ((srF p (m + 1) s : Nat) + brF p (m + 1) s s) := if_neg h
  have hl : srF p m (p s).toNat < m := by
    have h2 := T.2 s hs
    have e2 : srF p (m + 1) s = srF p m (p s).toNat + 1 := if_neg h
    omega
  unfold fM
  rw [e, fm_acc, br_sS, fm_acc (m + 1), fm_fuel m _ (m + 1) 0 hl (by omega), h1.1]
  omega
theorem fM_nn (T : Tr p n) : ∀ (d s : Nat), s < n → srF p n s = d → 0 ≤ fM p n s
  | 0, s, hs, h => by rw [fM_root (sr_root T hs h)]; exact Int.le_refl _
  | d + 1, s, hs, h => by
    have hq : ¬ p s = -1 := fun e => by rw [sr_0 e] at h; omega
    have h1 := sr_up T hs hq
    have := fM_nn T d _ h1.2.1 (by omega)
    rw [fM_son T hs hq]
    omega
/-- the run of the tour below w -/
theorem fM_in (T : Tr p n) {w : Nat} (hw : w < n) : ∀ (d k : Nat), k < n → srF p n k = srF p n w + d → bel p n k w → fM p n w ≤ fM p n k ∧ fM p n k + 2 * (beF p n k n : Int) ≤ fM p n w + 2 * (beF p n w n : Int)
  | 0, k, hk, h, hb => by
    obtain rfl := bel_eq T hk hb (by omega)
    exact ⟨Int.le_refl _, Int.le_refl _⟩
  | d + 1, k, hk, h, hb => by
    obtain ⟨hq, hb2⟩ := bel_up T hk hb (fun e => by subst e; omega)
    have h1 := sr_up T hk hq
    obtain ⟨i1, i2⟩ := fM_in T hw d _ h1.2.1 (by omega) hb2
    have h3 := fM_son T hk hq
    have h4 := be_split T h1.2.1
    rw [show (((p k).toNat : Nat) : Int) = p k by omega] at h4
    have h5 := sS_mono (p := p) (n := n) (p k) (show k + 1 ≤ n by omega)
    have h6 : sS p n (p k) (k + 1) = sS p n (p k) k + beF p n k n := by
      show sS p n (p k) k + (if p k = p k then beF p n k n else 0) = _
      rw [if_pos rfl]
    omega
end
