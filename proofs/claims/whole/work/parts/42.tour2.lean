theorem rc_two (p : Nat → Int) : ∀ n a, a < n → p a = -1 → 1 ≤ rcF p n ∧ ∀ b, a < b → b < n → p b = -1 → 2 ≤ rcF p n
  | 0, a, h, _ => absurd h (Nat.not_lt_zero _)
  | n + 1, a, h, ha => by
    have e : rcF p (n + 1) = rcF p n + (if p n = -1 then 1 else 0) := rfl
    by_cases han : a = n
    · subst han
      rw [e, if_pos ha]
      exact ⟨by omega, fun b h1 h2 => by omega⟩
    · obtain ⟨i1, i2⟩ := rc_two p n a (by omega) ha
      rw [e]
      refine ⟨by omega, fun b h1 h2 hb => ?_⟩
      by_cases hbn : b = n
      · subst hbn; rw [if_pos hb]; omega
      · have := i2 b h1 (by omega) hb; omega
theorem rc_ex (p : Nat → Int) : ∀ n, 1 ≤ rcF p n → ∃ a, a < n ∧ p a = -1
  | 0, h => by simp [rcF] at h
  | n + 1, h => by
    by_cases hn : p n = -1
    · exact ⟨n, by omega, hn⟩
    · have e : rcF p (n + 1) = rcF p n + (if p n = -1 then 1 else 0) := rfl
      rw [e, if_neg hn] at h
      obtain ⟨a, h1, h2⟩ := rc_ex p n (by omega)
      exact ⟨a, by omega, h2⟩
theorem roF_is (p : Nat → Int) : ∀ d k, (∃ a, k ≤ a ∧ a ≤ k + d ∧ p a = -1) → p (roF p d k) = -1
  | 0, k, ⟨a, h1, h2, h3⟩ => by
    obtain rfl : a = k := by omega
    exact h3
  | d + 1, k, ⟨a, h1, h2, h3⟩ => by
    unfold roF
    by_cases e : p k = -1
    · rw [if_pos e]; exact e
    · rw [if_neg e]
      exact roF_is p d (k + 1) ⟨a, by
        by_cases q : a = k
        · subst q; exact absurd h3 e
        · omega, by omega, h3⟩
section
variable {p : Nat → Int} {n : Nat}
theorem told_tr (h : toldP p n) : Tr p n := ⟨h.1, h.2.2⟩
theorem root_one (h : toldP p n) {a b : Nat} (ha : a < n) (hb : b < n) (h1 : p a = -1) (h2 : p b = -1) : a = b := by
  have hr := h.2.1
  rcases Nat.lt_trichotomy a b with hh | hh | hh
  · have := (rc_two p n a ha h1).2 b hh hb h2; omega
  · exact hh
  · have := (rc_two p n b hb h2).2 a hh ha h1; omega
theorem root_at (h : toldP p n) (hn : 1 ≤ n) : p (roF p (n - 1) 0) = -1 ∧ roF p (n - 1) 0 < n := by
  have hi := roF_in p (n - 1) 0
  obtain ⟨a, h1, h2⟩ := rc_ex p n (by rw [h.2.1]; exact Nat.le_refl _)
  exact ⟨roF_is p (n - 1) 0 ⟨a, by omega, by omega, h2⟩, by omega⟩
theorem all_root (h : toldP p n) {k r : Nat} (hk : k < n) (hr : r < n) (h1 : p r = -1) : bel p n k r := by
  refine ⟨srF p n k, Nat.le_refl _, ?_⟩
  exact root_one h (up_in h.1 n k hk _ (Nat.le_refl _)).1 hr (up_root h.1 n k hk (h.2.2 k hk)) h1
theorem one_root (h : toldP p n) {u v : Nat} (hu : u < n) (hv : v < n) : upF p (srF p n u) u = upF p (srF p n v) v :=
  root_one h (up_in h.1 n u hu _ (Nat.le_refl _)).1 (up_in h.1 n v hv _ (Nat.le_refl _)).1 (up_root h.1 n u hu (h.2.2 u hu)) (up_root h.1 n v hv (h.2.2 v hv))
theorem be_root (h : toldP p n) {r : Nat} (hr : r < n) (h1 : p r = -1) : beF p n r n = n := by
  rw [be_sg, sg_cg (g := fun _ => 1) n (fun k hk => bd_t (told_tr h) hk (all_root h hk hr h1))]
  have : ∀ m, sg (fun _ => 1) m = m := by
    intro m
    induction m with
    | zero => rfl
    | succ m ih => show sg (fun _ => 1) m + 1 = m + 1; rw [ih]
  exact this n
/-- where the tour is at step k -/
def tI1 (p : Nat → Int) (n r k : Nat) : Prop := (0 ≤ (tS p n r k).1 ∧ (tS p n r k).1 < n) ∧ ((tS p n r k).2 = -1 ∨ (0 ≤ (tS p n r k).2 ∧ (tS p n r k).2 < n ∧ p (tS p n r k).2.toNat = (tS p n r k).1)) ∧ fM p n (tS p n r k).1.toNat + 2 * (sS p n (tS p n r k).1 ((tS p n r k).2 + 1).toNat : Int) = k
theorem tour_step (h : toldP p n) {r : Nat} (hr : r < n) (h1 : p r = -1) {k : Nat} (hk : k + 1 ≤ 2 * n - 2) (hI : tI1 p n r k) : tI1 p n r (k + 1) ∧ ((soF p n (tS p n r k).1 (tS p n r k).2 < n ∧ (tS p n r (k + 1)).2 = -1 ∧ p (tS p n r (k + 1)).1.toNat = (tS p n r k).1) ∨ ((tS p n r (k + 1)) = (p (tS p n r k).1.toNat, (tS p n r k).1) ∧ fM p n (tS p n r k).1.toNat + 2 * (beF p n (tS p n r k).1.toNat n : Int) = k + 2 ∧ ¬ p (tS p n r k).1.toNat = -1)) := by
  have T := told_tr h
  obtain ⟨⟨a1, a2⟩, a3, a4⟩ := hI
  have es : tS p n r (k + 1) = if soF p n (tS p n r k).1 (tS p n r k).2 < n then (((soF p n (tS p n r k).1 (tS p n r k).2 : Nat) : Int), -1) else (p (tS p n r k).1.toNat, (tS p n r k).1) := rfl
  generalize hs : tS p n r k = st at *
  obtain ⟨at0, sd⟩ := st
  simp only at *
  obtain ⟨at0, rfl⟩ : ∃ q : Nat, at0 = (q : Int) := ⟨at0.toNat, by omega⟩
  rw [Int.toNat_natCast] at *
  have hat : at0 < n := by omega
  have hm : (sd + 1).toNat ≤ n := by omega
  have hb := sbF_in p (at0 : Int) (n - (sd + 1).toNat) (sd + 1).toNat
  obtain ⟨hb1, hb2⟩ := sbF_is (p := p) (at0 : Int) (n - (sd + 1).toNat) (sd + 1).toNat
  have eso : soF p n (at0 : Int) sd = sbF p (at0 : Int) (n - (sd + 1).toNat) (sd + 1).toNat := rfl
  rw [← eso] at hb hb1 hb2
  have hgap := sS_gap (p := p) (n := n) (at0 : Int) (soF p n (at0 : Int) sd) hb.1 hb1
  by_cases hd : soF p n (at0 : Int) sd < n
  · rw [if_pos hd] at es
    have hps := hb2 (by omega)
    have hson := fM_son T hd (by omega)
    rw [hps, Int.toNat_natCast, hgap] at hson
    unfold tI1
    rw [es]
    simp only [Int.toNat_natCast]
    refine ⟨⟨⟨by omega, by omega⟩, Or.inl trivial, ?_⟩, Or.inl ⟨hd, trivial, hps⟩⟩
    rw [hson, show ((-1 : Int) + 1).toNat = 0 from rfl, show sS p n (soF p n (at0 : Int) sd : Int) 0 = 0 from rfl]
    omega
  · rw [if_neg hd] at es
    have hn : soF p n (at0 : Int) sd = n := by omega
    rw [hn] at hgap
    have hsp := be_split T hat
    have hq : ¬ p at0 = -1 := by
      intro e
      have := root_one h hat hr e h1
      subst this
      have h5 := be_root h hat e
      rw [fM_root e] at a4
      omega
    have hu := sr_up T hat hq
    have hson := fM_son T hat hq
    unfold tI1
    rw [es]
    simp only
    have hS : sS p n (p at0) (at0 + 1) = sS p n (p at0) at0 + beF p n at0 n := by
      show sS p n (p at0) at0 + (if p at0 = p at0 then beF p n at0 n else 0) = _
      rw [if_pos rfl]
    refine ⟨⟨⟨by omega, by omega⟩, Or.inr ⟨by omega, by omega, by rw [Int.toNat_natCast]⟩, ?_⟩, Or.inr ⟨trivial, by omega, hq⟩⟩
    rw [show ((at0 : Int) + 1).toNat = at0 + 1 by omega, hS]
    omega
theorem tour_all (h : toldP p n) {r : Nat} (hr : r < n) (h1 : p r = -1) : ∀ k, k ≤ 2 * n - 2 → tI1 p n r k
  | 0, _ => by
    refine ⟨⟨by show (0 : Int) ≤ (r : Int); omega, by show (r : Int) < n; omega⟩, Or.inl rfl, ?_⟩
    show fM p n ((r : Int)).toNat + 2 * ((0 : Nat) : Int) = 0
    rw [Int.toNat_natCast, fM_root h1]; rfl
  | k + 1, hk => (tour_step h hr h1 hk (tour_all h hr h1 k (by omega))).1
theorem tour_ok (h : toldP p n) (hn : 1 ≤ n) : tourOK p n (roF p (n - 1) 0) := by
  intro k hk
  obtain ⟨h1, h2⟩ := root_at h hn
  obtain ⟨a1, a2, _⟩ := tour_all h h2 h1 k (by omega)
  exact ⟨a1, by omega⟩
/-- each node is entered when fM says -/
theorem tour_hit (h : toldP p n) {r : Nat} (hr : r < n) (h1 : p r = -1) {v : Nat} (hv : v < n) : ∃ k, k < 2 * n - 1 ∧ tS p n r k = ((v : Int), -1) ∧ fM p n v = k := by
  have hI := fun k (hk : k < 2 * n - 1) => tour_all h hr h1 k (by omega)
  have hsd : ∀ k, k < 2 * n - 1 → 0 ≤ (tS p n r k).2 → (tS p n r k).2.toNat ≠ r := by
    intro k hk h0 e
    obtain ⟨a1, a2, _⟩ := hI k hk
    rcases a2 with a2 | a2
    · omega
    · rw [e, h1] at a2; omega
  obtain ⟨k, hk, e⟩ := onto (n := 2 * n - 1) (f := fun k => if (tS p n r k).2 = -1 then (tS p n r k).1.toNat else if (tS p n r k).2.toNat < r then n + (tS p n r k).2.toNat else n + (tS p n r k).2.toNat - 1) (fun k hk => by
    obtain ⟨a1, a2, _⟩ := hI k hk
    have := hsd k hk
    show (if (tS p n r k).2 = -1 then (tS p n r k).1.toNat else if (tS p n r k).2.toNat < r then n + (tS p n r k).2.toNat else n + (tS p n r k).2.toNat - 1) < _
    split
    · omega
    · split <;> omega) (fun i j hij hj e => by
    obtain ⟨a1, a2, a3⟩ := hI i (by omega)
    obtain ⟨b1, b2, b3⟩ := hI j hj
    have c1 := hsd i (by omega)
    have c2 := hsd j hj
    have e : (if (tS p n r i).2 = -1 then (tS p n r i).1.toNat else if (tS p n r i).2.toNat < r then n + (tS p n r i).2.toNat else n + (tS p n r i).2.toNat - 1) = (if (tS p n r j).2 = -1 then (tS p n r j).1.toNat else if (tS p n r j).2.toNat < r then n + (tS p n r j).2.toNat else n + (tS p n r j).2.toNat - 1) := e
    have hst : (tS p n r i).1 = (tS p n r j).1 ∧ (tS p n r i).2 = (tS p n r j).2 := by
      by_cases q1 : (tS p n r i).2 = -1
      · rw [if_pos q1] at e
        by_cases q2 : (tS p n r j).2 = -1
        · rw [if_pos q2] at e
          exact ⟨by omega, by omega⟩
        · rw [if_neg q2] at e
          exfalso
          split at e <;> omega
      · rw [if_neg q1] at e
        by_cases q2 : (tS p n r j).2 = -1
        · rw [if_pos q2] at e
          exfalso
          split at e <;> omega
        · rw [if_neg q2] at e
          have e2 : (tS p n r i).2 = (tS p n r j).2 := by
            split at e <;> split at e <;> omega
          rcases a2 with a2 | a2
          · omega
          · rcases b2 with b2 | b2
            · omega
            · rw [← a2.2.2, ← b2.2.2, e2]
              exact ⟨rfl, rfl⟩
    rw [hst.1, hst.2] at a3
    omega) (y := v) (by omega)
  have e : (if (tS p n r k).2 = -1 then (tS p n r k).1.toNat else if (tS p n r k).2.toNat < r then n + (tS p n r k).2.toNat else n + (tS p n r k).2.toNat - 1) = v := e
  obtain ⟨a1, a2, a3⟩ := hI k hk
  have c1 := hsd k hk
  by_cases q1 : (tS p n r k).2 = -1
  · rw [if_pos q1] at e
    refine ⟨k, hk, Prod.ext (by show (tS p n r k).1 = (v : Int); omega) q1, ?_⟩
    rw [q1, e, show ((-1 : Int) + 1).toNat = 0 from rfl, show sS p n (tS p n r k).1 0 = 0 from rfl] at a3
    omega
  · rw [if_neg q1] at e
    exfalso
    split at e <;> omega
theorem fx_is {r v k0 : Nat} : ∀ m, (tS p n r k0).1 = v → (∀ k, k < k0 → ¬ (tS p n r k).1 = v) → fxF p n r v m = if k0 < m then (k0 : Int) else -1
  | 0, _, _ => by rw [if_neg (by omega)]; rfl
  | m + 1, h1, h2 => by
    have ih := fx_is m h1 h2
    unfold fxF
    rw [ih]
    by_cases hk : k0 < m
    · rw [if_pos hk, if_neg (fun z => by have := z.1; omega), if_pos (by omega)]
    · rw [if_neg hk]
      by_cases hm : k0 = m
      · subst hm
        rw [if_pos ⟨rfl, h1⟩, if_pos (by omega)]
      · rw [if_neg (fun z => h2 m (by omega) z.2), if_neg (by omega)]
theorem fx_fm (h : toldP p n) {r : Nat} (hr : r < n) (h1 : p r = -1) {v : Nat} (hv : v < n) : fxF p n r v (2 * n - 1) = fM p n v := by
  obtain ⟨k, hk, e1, e2⟩ := tour_hit h hr h1 hv
  rw [fx_is (k0 := k) _ (by rw [e1]) (fun j hj e => ?_), if_pos hk, e2]
  obtain ⟨a1, a2, a3⟩ := tour_all h hr h1 j (by omega)
  rw [e, Int.toNat_natCast] at a3
  omega
/-! sizes -/
theorem ip_is (T : Tr p n) : ∀ (k u : Nat) (c : Nat → Nat) (v : Nat), u < n → k ≤ srF p n u + 1 → ipN p k u c v = c v + (if srF p n u + 1 ≤ srF p n v + k ∧ srF p n v ≤ srF p n u ∧ upF p (srF p n u - srF p n v) u = v then 1 else 0)
  | 0, u, c, v, hu, _ => by
    show c v = _
    rw [if_neg (by omega)]
    omega
  | k + 1, u, c, v, hu, hk => by
    show ipN p k (p u).toNat (fun j => if j = u then c j + 1 else c j) v = _
    by_cases hq : p u = -1
    · have h0 := sr_0 (n := n) hq
      obtain rfl : k = 0 := by omega
      show (if v = u then c v + 1 else c v) = _
      by_cases hv : v = u
      · subst hv
        rw [if_pos rfl, if_pos ⟨by omega, by omega, by rw [Nat.sub_self]; rfl⟩]
      · rw [if_neg hv, if_neg]
        · omega
        · rintro ⟨z1, z2, z3⟩
          rw [h0, Nat.zero_sub] at z3
          exact hv z3.symm
    · have hu2 := sr_up T hu hq
      rw [ip_is T k _ _ v hu2.2.1 (by omega)]
      by_cases hv : v = u
      · subst hv
        rw [if_pos rfl, if_neg (by omega), if_pos ⟨by omega, by omega, by rw [Nat.sub_self]; rfl⟩]
      · rw [if_neg hv]
        congr 1
        by_cases hle : srF p n v ≤ srF p n (p u).toNat
        · have e : upF p (srF p n u - srF p n v) u = upF p (srF p n (p u).toNat - srF p n v) (p u).toNat := by
            rw [show srF p n u - srF p n v = srF p n (p u).toNat - srF p n v + 1 by omega]
            rfl
          rw [e]
          by_cases hc : srF p n (p u).toNat + 1 ≤ srF p n v + k ∧ srF p n v ≤ srF p n (p u).toNat ∧ upF p (srF p n (p u).toNat - srF p n v) (p u).toNat = v
          · rw [if_pos hc, if_pos ⟨by omega, by omega, hc.2.2⟩]
          · rw [if_neg hc, if_neg (fun z => hc ⟨by omega, by omega, z.2.2⟩)]
        · rw [if_neg (by omega), if_neg]
          rintro ⟨z1, z2, z3⟩
          rw [show srF p n u - srF p n v = 0 by omega] at z3
          exact hv z3.symm
theorem cs_be (T : Tr p n) (v : Nat) : ∀ m, m ≤ n → csN p (srF p n) m v = beF p n v m
  | 0, _ => rfl
  | m + 1, hm => by
    show ipN p (srF p n m + 1) m (csN p (srF p n) m) v = beF p n v m + _
    rw [ip_is T _ _ _ _ (by omega) (Nat.le_refl _), cs_be T v m (by omega)]
    congr 1
    by_cases hc : srF p n v ≤ srF p n m ∧ upF p (srF p n m - srF p n v) m = v
    · rw [if_pos hc, if_pos ⟨by omega, hc.1, hc.2⟩]
    · rw [if_neg hc, if_neg (fun z => hc z.2)]
/-! where two lines meet -/
/-- the tour leaves what is below w only at the end -/
theorem tour_stay (h : toldP p n) {r : Nat} (hr : r < n) (h1 : p r = -1) {w : Nat} (hw : w < n) {a : Nat} : ∀ (d : Nat), a + d ≤ 2 * n - 2 → bel p n (tS p n r a).1.toNat w → ((a + d : Nat) : Int) ≤ fM p n w + 2 * (beF p n w n : Int) - 2 → bel p n (tS p n r (a + d)).1.toNat w
  | 0, _, hb, _ => hb
  | d + 1, hd, hb, hle => by
    have T := told_tr h
    have ih := tour_stay h hr h1 hw d (by omega) hb (by omega)
    have hI := tour_all h hr h1 (a + d) (by omega)
    obtain ⟨hJ, hs⟩ := tour_step h hr h1 (k := a + d) (by omega) hI
    rw [show a + (d + 1) = a + d + 1 by omega]
    rcases hs with ⟨_, _, hs⟩ | ⟨hs, hk, hq⟩
    · have hn1 : (tS p n r (a + d + 1)).1.toNat < n := by have := hJ.1; omega
      have hb2 := bel_son T hn1 (by have := hI.1; omega)
      rw [hs] at hb2
      exact bel_trans T hn1 hb2 ih
    · have ha : (tS p n r (a + d)).1.toNat < n := by have := hI.1; omega
      by_cases e : (tS p n r (a + d)).1.toNat = w
      · rw [e] at hk; omega
      · have := (bel_up T ha ih e).2
        rw [hs]
        exact this
/-- leaving a node's part is going to its parent -/
theorem tour_leave (h : toldP p n) {r : Nat} (hr : r < n) (h1 : p r = -1) {c : Nat} (hc : c < n) {a : Nat} : ∀ (d : Nat), a + d ≤ 2 * n - 2 → bel p n (tS p n r a).1.toNat c → ¬ bel p n (tS p n r (a + d)).1.toNat c → ∃ k, a ≤ k ∧ k ≤ a + d ∧ (tS p n r k).1 = p c
  | 0, _, hb, hn => absurd hb hn
  | d + 1, hd, hb, hn => by
    have T := told_tr h
    by_cases hm : bel p n (tS p n r (a + d)).1.toNat c
    · have hI := tour_all h hr h1 (a + d) (by omega)
      obtain ⟨hJ, hs⟩ := tour_step h hr h1 (k := a + d) (by omega) hI
      rw [show a + (d + 1) = a + d + 1 by omega] at hn
      refine ⟨a + d + 1, by omega, by omega, ?_⟩
      rcases hs with ⟨_, _, hs⟩ | ⟨hs, hk, hq⟩
      · exfalso
        have hn1 : (tS p n r (a + d + 1)).1.toNat < n := by have := hJ.1; omega
        have hb2 := bel_son T hn1 (by have := hI.1; omega)
        rw [hs] at hb2
        exact hn (bel_trans T hn1 hb2 hm)
      · have ha : (tS p n r (a + d)).1.toNat < n := by have := hI.1; omega
        by_cases e : (tS p n r (a + d)).1.toNat = c
        · rw [hs, e]
        · exfalso
          have := (bel_up T ha hm e).2
          rw [hs] at hn
          exact hn this
    · obtain ⟨k, k1, k2, k3⟩ := tour_leave h hr h1 hc d (by omega) hb hm
      exact ⟨k, k1, by omega, k3⟩
theorem md_is (T : Tr p n) {u v : Nat} : ∀ d, (upF p (srF p n u - 0) u = upF p (srF p n v - 0) v) → upF p (srF p n u - mdF p n u v d) u = upF p (srF p n v - mdF p n u v d) v ∧ ∀ e, mdF p n u v d < e → e ≤ d → ¬ upF p (srF p n u - e) u = upF p (srF p n v - e) v
  | 0, h => ⟨h, fun e h1 h2 => by omega⟩
  | d + 1, h => by
    obtain ⟨i1, i2⟩ := md_is T d h
    unfold mdF
    by_cases hc : upF p (srF p n u - (d + 1)) u = upF p (srF p n v - (d + 1)) v
    · rw [if_pos hc]
      exact ⟨hc, fun e h1 h2 => by omega⟩
    · rw [if_neg hc]
      refine ⟨i1, fun e h1 h2 => ?_⟩
      by_cases he : e = d + 1
      · subst he; exact hc
      · exact i2 e h1 (by omega)
end
