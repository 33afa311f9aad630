section
variable {p : Nat → Int} {n : Nat}
theorem meet_xy (h : toldP p n) {r : Nat} (hr : r < n) (h1 : p r = -1) {x y w lo hi : Nat} (hx : x < n) (hy : y < n) (hw : w < n) (e1 : fM p n x = lo) (e2 : fM p n y = hi) (hle : lo ≤ hi) (b1 : bel p n x w) (b2 : bel p n y w) (hsep : ∀ c, c < n → p c = (w : Int) → bel p n x c → bel p n y c → False) : hi ≤ 2 * n - 2 ∧ (∀ j, lo ≤ j → j ≤ hi → bel p n (tS p n r j).1.toNat w) ∧ ∃ j, lo ≤ j ∧ j ≤ hi ∧ (tS p n r j).1 = (w : Int) := by
  have T := told_tr h
  obtain ⟨k1, q1, q2, q3⟩ := tour_hit h hr h1 hx
  obtain rfl : lo = k1 := by omega
  obtain ⟨k2, r1, r2, r3⟩ := tour_hit h hr h1 hy
  obtain rfl : hi = k2 := by omega
  have hin := fM_in T hw (srF p n y - srF p n w) y hy (by have := (bel_sr T hy b2).1; omega) b2
  have hby := be_pos T hy
  refine ⟨by omega, fun j j1 j2 => ?_, ?_⟩
  · have := tour_stay h hr h1 hw (a := lo) (j - lo) (by omega) (by rw [q2]; exact b1) (by omega)
    rw [show lo + (j - lo) = j by omega] at this
    exact this
  · by_cases hxw : x = w
    · subst hxw
      exact ⟨lo, Nat.le_refl _, hle, by rw [q2]⟩
    · obtain ⟨i, i1, i2⟩ := b1
      obtain ⟨i, rfl⟩ : ∃ m, i = m + 1 := ⟨i - 1, by
        cases i with
        | zero => exact absurd i2 hxw
        | succ i => rfl⟩
      obtain ⟨g1, g2⟩ := up_in T.1 n x hx i (by omega)
      have g3 := sr_up T g1 (g2 (by omega))
      have e0 : p (upF p i x) = (w : Int) := by
        rw [upF_s] at i2
        omega
      have hbc : bel p n x (upF p i x) := ⟨i, by omega, rfl⟩
      obtain ⟨k, k1, k2, k3⟩ := tour_leave h hr h1 g1 (a := lo) (hi - lo) (by omega) (by rw [q2]; exact hbc) (by
        rw [show lo + (hi - lo) = hi by omega, r2]
        exact fun z => hsep _ g1 e0 hbc z)
      exact ⟨k, k1, by omega, by rw [k3, e0]⟩
theorem meet_is (h : toldP p n) {r : Nat} (hr : r < n) (h1 : p r = -1) {u v a0 b0 : Nat} (hu : u < n) (hv : v < n) (e1 : fM p n u = a0) (e2 : fM p n v = b0) {g : Nat → Int} (hg : ∀ j, j < 2 * n - 1 → g j = (srF p n (tS p n r j).1.toNat : Nat)) : lsF g (min a0 b0) (max a0 b0 - min a0 b0) < 2 * n - 1 ∧ (tS p n r (lsF g (min a0 b0) (max a0 b0 - min a0 b0))).1 = ((upF p (srF p n u - mdF p n u v (min (srF p n u) (srF p n v))) u : Nat) : Int) := by
  have T := told_tr h
  obtain ⟨m1, m2⟩ := md_is T (u := u) (v := v) (min (srF p n u) (srF p n v)) (one_root h hu hv)
  have hD := mdF_le p n u v (min (srF p n u) (srF p n v))
  generalize hDe : mdF p n u v (min (srF p n u) (srF p n v)) = D at *
  have hw : upF p (srF p n u - D) u < n := (up_in T.1 n u hu _ (by omega)).1
  have hsw : srF p n (upF p (srF p n u - D) u) = D := by rw [up_sr T hu _ (by omega)]; omega
  generalize hwe : upF p (srF p n u - D) u = w at *
  have b1 : bel p n u w := ⟨_, by omega, hwe⟩
  have b2 : bel p n v w := ⟨_, by omega, m1.symm⟩
  have hsep : ∀ c, c < n → p c = (w : Int) → bel p n u c → bel p n v c → False := by
    intro c hc hpc c1 c2
    have hsc := sr_up T hc (by omega)
    rw [hpc, Int.toNat_natCast] at hsc
    have d1 := (bel_iff T hu).mpr c1
    have d2 := (bel_iff T hv).mpr c2
    have := m2 (D + 1) (by omega) (by omega)
    apply this
    rw [show D + 1 = srF p n c by omega, d1.2, d2.2]
  have key : ∃ lo hi, lo = min a0 b0 ∧ hi = max a0 b0 ∧ hi ≤ 2 * n - 2 ∧ (∀ j, lo ≤ j → j ≤ hi → bel p n (tS p n r j).1.toNat w) ∧ ∃ j, lo ≤ j ∧ j ≤ hi ∧ (tS p n r j).1 = (w : Int) := by
    by_cases hab : a0 ≤ b0
    · exact ⟨a0, b0, by omega, by omega, meet_xy h hr h1 hu hv hw e1 e2 hab b1 b2 hsep⟩
    · exact ⟨b0, a0, by omega, by omega, meet_xy h hr h1 hv hu hw e2 e1 (by omega) b2 b1 (fun c hc hpc c1 c2 => hsep c hc hpc c2 c1)⟩
  obtain ⟨lo, hi, elo, ehi, k1, k2, j, j1, j2, j3⟩ := key
  rw [← elo, ← ehi]
  have hin := lsF_in g lo (hi - lo)
  have hle := lsF_le g lo (hi - lo) j j1 (by omega)
  have hb := k2 (lsF g lo (hi - lo)) hin.1 (by omega)
  have hI := (tour_all h hr h1 (lsF g lo (hi - lo)) (by omega)).1
  rw [hg _ (by omega), hg j (by omega), j3, Int.toNat_natCast, hsw] at hle
  have hs := (bel_sr T (by omega) hb).1
  have := bel_eq T (by omega) hb (by omega)
  exact ⟨by omega, by omega⟩
end
/-! what the family's arrays tell -/
section
variable {p : Nat → Int} {n : Nat} {pa de sz fi mt tf : Nat → Int32}
theorem fam_sz (h : toldP p n) (hf : famOK p n pa de sz fi mt tf) {u : Nat} (hu : u < n) : sz u = iI (beF p n u n : Nat) := by
  rw [hf.2.2.1 u hu, cs_be (told_tr h) u n (Nat.le_refl _)]
theorem fam_fi (h : toldP p n) (hf : famOK p n pa de sz fi mt tf) {u : Nat} (hu : u < n) : fi u = iI (fM p n u) ∧ ∃ a0 : Nat, fM p n u = a0 ∧ a0 < 2 * n - 1 := by
  obtain ⟨h1, h2⟩ := root_at h (by omega)
  rw [hf.2.2.2.1 u hu, fx_fm h h2 h1 hu]
  obtain ⟨k, k1, _, k3⟩ := tour_hit h h2 h1 hu
  exact ⟨rfl, k, k3, k1⟩
theorem fam_meet (h : toldP p n) (hn : n ≤ 24) (hf : famOK p n pa de sz fi mt tf) {u v a0 b0 : Nat} (hu : u < n) (hv : v < n) (e1 : fM p n u = a0) (e2 : fM p n v = b0) : mt (lsF (tI tf) (min a0 b0) (max a0 b0 - min a0 b0)) = iI ((upF p (srF p n u - mdF p n u v (min (srF p n u) (srF p n v))) u : Nat) : Int) ∧ upF p (srF p n u - mdF p n u v (min (srF p n u) (srF p n v))) u < n := by
  obtain ⟨h1, h2⟩ := root_at h (by omega)
  obtain ⟨m1, m2⟩ := meet_is h h2 h1 hu hv e1 e2 (g := tI tf) (fun j hj => by
    show (tf j).toInt = _
    rw [hf.2.2.2.2.2 j hj]
    have := srF_le p n (tS p n (roF p (n - 1) 0) j).1.toNat
    exact iI_t ⟨by omega, by omega⟩)
  rw [hf.2.2.2.2.1 _ m1, m2]
  exact ⟨rfl, (up_in h.1 n u hu _ (by omega)).1⟩
end
