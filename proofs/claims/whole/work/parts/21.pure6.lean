/-- what a frame of another world leaves: a contract over a part is one over the whole -/
theorem va_A.mono {M Mc : va_W} {is : List Nat} (hC : is.map (fun i => M[i]?) = Mc.map some) {sz q : Nat} (h : va_A Mc sz q) : va_A M sz q := by
  rcases h with ⟨k, e, h⟩ | h
  · have hlen : is.length = Mc.length := by have := congrArg List.length hC; simpa using this
    have ht : k < is.length := by rw [hlen]; exact (List.getElem?_eq_some_iff.mp h).1
    obtain ⟨c, h3, h4⟩ := map_get hC (List.getElem?_eq_getElem ht)
    cases h.symm.trans h3
    exact Or.inl ⟨_, e, h4⟩
  · exact Or.inr h
theorem MC.frame {E : jD} {Y : jY} {av : List Value} {M Mc : va_W} {Q : jP} (is : List Nat) (h : MC E Y av Mc Q) (hsub : is.map (fun i => M[i]?) = Mc.map some) (hnd : va_nd is = true) (hsame : ∀ r N, Q r N → (N.take is.length).map Prod.fst = Mc.map Prod.fst) : MC E Y av M (fun r N => ∃ Nc, Q r Nc ∧ N = jput M is Nc) := by
  have hsub2 : is.filterMap (fun i => M[i]?) = Mc := by
    have h1 : is.filterMap (fun i => M[i]?) = (is.map (fun i => M[i]?)).filterMap id := by rw [List.filterMap_map]; rfl
    rw [h1, hsub, List.filterMap_map]
    exact List.filterMap_some
  intro l sz p e ha hc hk s m args below hf happ hP hK
  obtain ⟨hv, hsz, hPw, hKw, hDw⟩ := hP
  obtain ⟨t, o, h1, h2, h3, ⟨⟨r, N, q1, q2, q3, q4⟩, q5⟩, L, f1, f2⟩ := h l sz p e ha hc hk s m args below hf happ ⟨hv, hsz, hPw.sub is hsub2, hKw, hDw.sub is hnd hsub⟩ hK
  have hD2 : va_D (va_A M sz) M := hDw.self
  subst hsz
  obtain ⟨g1, g2⟩ := jput_world hPw hD2 hsub (fun q a b => q5.2 q a b) (fun q a => va_A.mono hsub a) q3 q4 (hsame r N q2)
  exact ⟨t, o, h1, h2, h3, ⟨⟨r, _, q1, ⟨N, q2, rfl⟩, g1, g2⟩, q5.1, fun q a b => q5.2 q a (fun z => b (va_A.mono hsub z))⟩, L, f1, fun q hq => va_A.mono hsub (f2 q hq)⟩
/-! what a refusal does: c is -1 BAD, -2 STATE, or the finding's number -/
def rz (c : Int) : Int := if 0 < c then -3 else c
def rf (c fnd : Int) : Int := if 0 < c then c else fnd
def inF (fm : Nat → Int) (w : Nat) : Nat → Int := fun j => if j = w then fm j + 1 else fm j
def rm (c : Int) (fm : Nat → Int) : Nat → Int := if 0 < c then inF fm c.toNat else fm
def aI (q : Nat → Int) : Nat → Int32 := fun j => iI (q j)
theorem aI_upd (q : Nat → Int) (k : Nat) : upd (aI q) k (iI (q k + 1)) = aI (inF q k) := by
  funext j
  unfold upd aI inF
  by_cases h : j = k
  · subst h; simp
  · simp [h]
theorem rz_ne {c : Int} (h : c ≠ 0) : rz c ≠ 0 := by
  unfold rz; split <;> omega
theorem rz_r {c : Int} (h : -2 ≤ c ∧ c ≤ 4) : jr (rz c) := by
  unfold rz; split <;> exact ⟨by omega, by omega⟩
