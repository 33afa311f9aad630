/-! ints as integers: iI z is the int of the integer z -/
def iI (z : Int) : Int32 := Int32.ofInt z
abbrev jr (z : Int) : Prop := -2147483648 ≤ z ∧ z < 2147483648
theorem iI_t {z : Int} (h : jr z) : (iI z).toInt = z := Int32.toInt_ofInt_of_le (by have := h.1; omega) (by have := h.2; omega)
theorem iI_rng (x : Int32) : jr x.toInt := by
  have h1 := Int32.le_toInt x
  have h2 := Int32.toInt_lt x
  exact ⟨by omega, by omega⟩
theorem iI_x (x : Int32) : iI x.toInt = x := Int32.ofInt_toInt x
theorem iI_add (a b : Int) : iI a + iI b = iI (a + b) := (Int32.ofInt_add a b).symm
theorem iI_sub (a b : Int) : iI a - iI b = iI (a - b) := (Int32.ofInt_sub a b).symm
theorem iI_mul (a b : Int) : iI a * iI b = iI (a * b) := (Int32.ofInt_mul a b).symm
theorem iI_lt {a b : Int} (ha : jr a) (hb : jr b) : iI a < iI b ↔ a < b := by rw [Int32.lt_iff_toInt_lt, iI_t ha, iI_t hb]
theorem iI_le {a b : Int} (ha : jr a) (hb : jr b) : iI a ≤ iI b ↔ a ≤ b := by rw [Int32.le_iff_toInt_le, iI_t ha, iI_t hb]
theorem iI_eq {a b : Int} (ha : jr a) (hb : jr b) : iI a = iI b ↔ a = b := ⟨fun h => by have := congrArg Int32.toInt h; rwa [iI_t ha, iI_t hb] at this, fun h => by rw [h]⟩
theorem iI_0 : iI 0 = 0 := by decide +kernel
theorem jr_0 : jr 0 := ⟨by decide, by decide⟩
theorem iI_clamp {j : Nat} (h : j < 2147483648) : (iI (j : Int)).toNatClampNeg = j := by
  show (iI (j : Int)).toInt.toNat = j
  rw [iI_t ⟨by omega, by omega⟩]
  omega
theorem iI_in {j n : Nat} (h : j < n) (hn : n < 2147483648) : vp_in (iI (j : Int)) n := by
  intro q
  rcases q with q | q
  · rw [← iI_0, iI_lt ⟨by omega, by omega⟩ jr_0] at q
    omega
  · rw [iI_clamp (by omega)] at q
    omega
theorem iI_nat (n : Nat) : Int32.ofNat n = iI (n : Int) := rfl
/-! the worlds: array kinds, cells, methods -/
abbrev jD : Type := va_G × (Nat → ClassId)
def jty (E : jD) : List (ClassId × FieldType) := [(E.2 0, .int), (E.2 1, .long), (E.2 2, .object RX4), (E.2 3, .object RX2)]
def jK (E : jD) (U : State) : Prop := va_K E.1 vwCl (jty E) U ∧ va_AO RX4 U ∧ va_AO RX2 U
theorem jK.moved {E : jD} {u U : State} (hvm : u.vm.Alike U.vm) (h : jK E u) : jK E U := ⟨va_K.moved hvm h.1, h.2.1.moved hvm, h.2.2.moved hvm⟩
abbrev jA (E : jD) (n : Nat) (f : Nat → Int32) : va_E := .inl (E.2 0, n, .inl f)
abbrev jL (E : jD) (n : Nat) (f : Nat → Int64) : va_E := .inl (E.2 1, n, .inr (.inl f))
abbrev jR (E : jD) (t n : Nat) (f : Nat → Option Nat) : va_E := .inl (E.2 t, n, .inr (.inr (.inr (.inr f))))
abbrev jO (ci : Nat) (fs : List Value) : va_E := .inr (ci, fs)
/-- a method: name, code, locals, answer, level, cells, slots -/
abbrev jY : Type := MethodName × ByteArray × Nat × Option FieldType × Nat × Nat × Nat
def jrm (Y : jY) : Room := { frames := Y.2.2.2.2.1, cells := Y.2.2.2.2.2.1, slots := Y.2.2.2.2.2.2, locals := 40 * Y.2.2.2.2.1 }
def jws (Y : jY) : List Cond := .code Y.1 Y.2.1 Y.2.2.1 Y.2.2.2.1 :: jT
abbrev jP : Type := Option Value → va_W → Prop
def jB (E : jD) (M : va_W) (sz : Nat) (U : State) : Prop := U.heap.size = sz ∧ va_P E.1 vwCl M U.heap ∧ jK E U ∧ va_D (fun _ => True) M
def jQ (E : jD) (Q : jP) (A : Nat → Prop) : Array Value → State → Outcome → State → Prop := fun _ st oc t => (∃ (r : Option Value) (M : va_W), oc = .returned r ∧ Q r M ∧ va_P E.1 vwCl M t.heap ∧ va_D A M) ∧ va_F A st t
/-- a method's contract over a world -/
def MC (E : jD) (Y : jY) (av : List Value) (M : va_W) (Q : jP) : Prop := ∀ (l : Launch) (sz : Nat), Met l Y.1 (jws Y) (jrm Y) (va_Pc av (jB E M sz)) (jQ E Q (va_A M sz)) Y.2.2.2.2.2.1 Y.2.2.2.2.2.2 (va_A M sz)
abbrev jF : Type := Array Value → State → List Frame → (Nat → Prop) → State → Prop
abbrev jX : Type := Array Value → State → (Nat → Prop) → Prop
abbrev jZ : Type := Room × jF × jX
def jZm (E : jD) (Y : jY) (Q : jP) : jZ := (jrm Y, fun args s below A => MQ below (jQ E Q A) args s Y.2.2.2.2.2.1 Y.2.2.2.2.2.2 A, fun _ _ _ => True)
def jC (E : jD) (Y : jY) (Z : jZ) (p : Program) (s : State) (m : MethodId) (args : Array Value) (meth : Method) (c : Code) (A : Nat → Prop) : Prop :=
  p.tables.exec = Jvm.exec ∧ c.code = Y.2.1 ∧ c.maxLocals = Y.2.2.1 ∧ meth.sig.returnType = Y.2.2.2.1 ∧ meth.locks = false ∧ s.vm.findClass Y.1.cls = some m.cls ∧ meth.name = Y.1.name ∧ (∀ w ∈ jT, w.before args s = true) ∧ jK E s ∧ (∀ q, s.heap.size ≤ q → A q) ∧ Z.2.2 args s A
/-- the machine at pc with locals lv, operands st, world M comes to the method's end -/
def J (E : jD) (Y : jY) (Z : jZ) (k n : Nat) (pc : Nat) (lv : List (Nat × Value)) (st : List Value) (M : va_W) : Prop :=
  ∀ (p : Program) (l : Launch) (e : Env) (s : State) (m : MethodId) (args : Array Value) (below : List Frame) (meth : Method) (c : Code) (A : Nat → Prop), jC E Y Z p s m args meth c A →
  ∀ (H : Heap) (locs : List Loc) (ls : Array Slot), lv_has ls Y.2.2.1 lv → va_P E.1 vwCl M H → va_D A M → va_S A s.heap H locs →
  W p l e Z.1 s m args below meth c H locs k n (Z.2.1 args s below A) (F0 m pc ls st)
theorem MC.of {E : jD} {Y : jY} {av : List Value} {M : va_W} {Q : jP} {lv : List (Nat × Value)} (hy : plainName Y.1.cls = true) (hn : Nat.ble (lg_sl av).length Y.2.2.1 = true) (hlv : lv_args 0 av = lv) (h : J E Y (jZm E Y Q) 0 0 0 lv [] M) : MC E Y av M Q := by
  intro l sz
  refine Met.ofW (cc := Y.2.1) (maxL := Y.2.2.1) (ret := Y.2.2.2.1) hy rfl ?_
  intro p e s m args below meth c s₁ B hml hv
  obtain ⟨rfl, hsz, hP, hK, hD0⟩ := hv
  subst hsz
  subst hlv
  have hts := atoms_spec (ws := jws Y) B.pre
  have hl := lv_entry av (Nat.le_of_ble_eq_true hn)
  rw [lg_entry_eq]
  exact h p l e s m _ below meth c (va_A M s.heap.size) ⟨B.exec, B.bytes, hml, B.returns, B.notSynchronized, findClass_of_methodNamed B.named, (name_of_methodNamed B.named B.method).1, fun w hw => hts w (List.mem_cons_of_mem _ hw), hK, fun q h => Or.inr h, trivial⟩ s.heap [] _ hl hP hD0.self va_S.rf
/-- a weaker end -/
theorem MC.mono {E : jD} {Y : jY} {av : List Value} {M : va_W} {Q Q' : jP} (h : MC E Y av M Q) (hq : ∀ r N, Q r N → Q' r N) : MC E Y av M Q' := by
  intro l sz p e ha hc hk s m args below hf happ hP hK
  obtain ⟨t, o, h1, h2, h3, ⟨⟨r, N, q1, q2, q3⟩, q4⟩, h5⟩ := h l sz p e ha hc hk s m args below hf happ hP hK
  exact ⟨t, o, h1, h2, h3, ⟨⟨r, N, q1, hq r N q2, q3⟩, q4⟩, h5⟩
/-! locals -/
def jl : List (Nat × Value) → Nat → Option Value
  | [], _ => none
  | (j, v) :: r, i => bif Nat.beq j i then some v else jl r i
def jdel : List (Nat × Value) → Nat → List (Nat × Value)
  | [], _ => []
  | (j, v) :: r, i => bif Nat.beq j i then jdel r i else (j, v) :: jdel r i
def js : List (Nat × Value) → Nat → Value → List (Nat × Value)
  | [], i, v => [(i, v)]
  | (j, w) :: r, i, v => bif Nat.beq j i then (i, v) :: jdel r i else (j, w) :: js r i v
/-- no two-word value stands just ahead of i -/
def jok : List (Nat × Value) → Nat → Bool
  | [], _ => true
  | (j, v) :: r, i => (bif Nat.beq (j + 1) i then Nat.beq v.category 1 else true) && jok r i
/-- nothing stands at i -/
def jno : List (Nat × Value) → Nat → Bool
  | [], _ => true
  | (j, _) :: r, i => (bif Nat.beq j i then false else true) && jno r i
theorem jl_mem : ∀ {lv : List (Nat × Value)} {i : Nat} {v : Value}, jl lv i = some v → (i, v) ∈ lv
  | [], _, _, h => by cases h
  | (j, w) :: r, i, v, h => by
    unfold jl at h
    cases hb : Nat.beq j i with
    | true =>
      rw [hb] at h
      have hji := Nat.eq_of_beq_eq_true hb
      subst hji
      cases h
      exact List.mem_cons_self
    | false =>
      rw [hb] at h
      exact List.mem_cons_of_mem _ (jl_mem h)
theorem jdel_mem : ∀ {lv : List (Nat × Value)} {i : Nat} {q : Nat × Value}, q ∈ jdel lv i → q ∈ lv ∧ q.1 ≠ i
  | [], _, _, h => by cases h
  | (j, w) :: r, i, q, h => by
    unfold jdel at h
    cases hb : Nat.beq j i with
    | true =>
      rw [hb] at h
      obtain ⟨h1, h2⟩ := jdel_mem (lv := r) h
      exact ⟨List.mem_cons_of_mem _ h1, h2⟩
    | false =>
      rw [hb] at h
      rcases List.mem_cons.mp h with rfl | h
      · exact ⟨List.mem_cons_self, Nat.ne_of_beq_eq_false hb⟩
      · obtain ⟨h1, h2⟩ := jdel_mem (lv := r) h
        exact ⟨List.mem_cons_of_mem _ h1, h2⟩
theorem js_mem : ∀ {lv : List (Nat × Value)} {i : Nat} {v : Value} {q : Nat × Value}, q ∈ js lv i v → q = (i, v) ∨ (q ∈ lv ∧ q.1 ≠ i)
  | [], _, _, _, h => Or.inl (List.mem_singleton.mp h)
  | (j, w) :: r, i, v, q, h => by
    unfold js at h
    cases hb : Nat.beq j i with
    | true =>
      rw [hb] at h
      rcases List.mem_cons.mp h with h | h
      · exact Or.inl h
      · obtain ⟨h1, h2⟩ := jdel_mem h
        exact Or.inr ⟨List.mem_cons_of_mem _ h1, h2⟩
    | false =>
      rw [hb] at h
      rcases List.mem_cons.mp h with rfl | h
      · exact Or.inr ⟨List.mem_cons_self, Nat.ne_of_beq_eq_false hb⟩
      · rcases js_mem (lv := r) h with h | ⟨h1, h2⟩
        · exact Or.inl h
        · exact Or.inr ⟨List.mem_cons_of_mem _ h1, h2⟩
theorem jok_mem : ∀ {lv : List (Nat × Value)} {i : Nat}, jok lv i = true → ∀ q ∈ lv, q.1 + 1 = i → q.2.category = 1
  | [], _, _, _, h, _ => by cases h
  | (j, w) :: r, i, h, q, hq, e => by
    unfold jok at h
    rw [Bool.and_eq_true] at h
    rcases List.mem_cons.mp hq with rfl | hq
    · have hb : Nat.beq (j + 1) i = true := by rw [Nat.beq_eq]; exact e
      rw [hb] at h
      exact Nat.eq_of_beq_eq_true h.1
    · exact jok_mem h.2 q hq e
theorem jno_mem : ∀ {lv : List (Nat × Value)} {i : Nat}, jno lv i = true → ∀ q ∈ lv, q.1 ≠ i
  | [], _, _, _, h => by cases h
  | (j, w) :: r, i, h, q, hq => by
    unfold jno at h
    rw [Bool.and_eq_true] at h
    rcases List.mem_cons.mp hq with rfl | hq
    · intro e
      have hb : Nat.beq j i = true := by rw [Nat.beq_eq]; exact e
      rw [hb] at h
      exact absurd h.1 (by decide)
    · exact jno_mem h.2 q hq
theorem lv_has_sub {ls : Array Slot} {nL : Nat} {a b : List (Nat × Value)} (h : lv_has ls nL a) (hs : ∀ q ∈ b, q ∈ a) : lv_has ls nL b := ⟨h.1, h.2.1, fun q hq => h.2.2 q (hs q hq)⟩
theorem js_has1 {ls : Array Slot} {nL : Nat} {lv : List (Nat × Value)} {i : Nat} {v : Value} (hok : jok lv i = true) (h : lv_has ls nL ((i, v) :: lv.filter (fun q => !(q.1 == i) && !(q.1 + 1 == i && q.2.category == 2)))) : lv_has ls nL (js lv i v) := by
  refine lv_has_sub h (fun q hq => ?_)
  rcases js_mem hq with rfl | ⟨h1, h2⟩
  · exact List.mem_cons_self
  · refine List.mem_cons_of_mem _ (List.mem_filter.mpr ⟨h1, ?_⟩)
    by_cases h3 : q.1 + 1 = i
    · have := jok_mem hok q h1 h3
      simp [h2, this]
    · simp [h2, h3]
theorem js_has2 {ls : Array Slot} {nL : Nat} {lv : List (Nat × Value)} {i : Nat} {v : Value} (hok : jok lv i = true) (hno : jno lv (i + 1) = true) (h : lv_has ls nL ((i, v) :: lv.filter (fun q => !(q.1 == i) && (!(q.1 == i + 1) && !(q.1 + 1 == i && q.2.category == 2))))) : lv_has ls nL (js lv i v) := by
  refine lv_has_sub h (fun q hq => ?_)
  rcases js_mem hq with rfl | ⟨h1, h2⟩
  · exact List.mem_cons_self
  · refine List.mem_cons_of_mem _ (List.mem_filter.mpr ⟨h1, ?_⟩)
    have h4 := jno_mem hno q h1
    by_cases h3 : q.1 + 1 = i
    · have := jok_mem hok q h1 h3
      simp [h2, this, h4]
    · simp [h2, h3, h4]
/-! what a call gives back, put into its places -/
def jsets : va_W → List (Nat × (Nat × va_E)) → va_W
  | M, [] => M
  | M, (i, c) :: r => jsets (M.set i c) r
def jput (M : va_W) (is : List Nat) (N : va_W) : va_W := jsets M (is.zip N) ++ N.drop is.length
theorem jsets_len : ∀ (L : List (Nat × (Nat × va_E))) (M : va_W), (jsets M L).length = M.length
  | [], _ => rfl
  | (i, c) :: r, M => by
    show (jsets (M.set i c) r).length = M.length
    rw [jsets_len r, List.length_set]
theorem jsets_get : ∀ (L : List (Nat × (Nat × va_E))) (M : va_W) (k : Nat) (q : Nat × va_E), (jsets M L)[k]? = some q → (k, q) ∈ L ∨ (M[k]? = some q ∧ ∀ c, (k, c) ∉ L)
  | [], _, _, _, h => Or.inr ⟨h, fun _ => List.not_mem_nil⟩
  | (i, c) :: r, M, k, q, h => by
    have h' : (jsets (M.set i c) r)[k]? = some q := h
    rcases jsets_get r _ k q h' with h1 | ⟨h1, h2⟩
    · exact Or.inl (List.mem_cons_of_mem _ h1)
    · by_cases hk : i = k
      · subst hk
        have hl : i < M.length := by
          have := (List.getElem?_eq_some_iff.mp h1).1
          rwa [List.length_set] at this
        rw [List.getElem?_set_self hl] at h1
        cases h1
        exact Or.inl List.mem_cons_self
      · rw [List.getElem?_set_ne hk] at h1
        refine Or.inr ⟨h1, fun c' hc => ?_⟩
        rcases List.mem_cons.mp hc with hc | hc
        · exact hk (congrArg Prod.fst hc).symm
        · exact h2 c' hc
theorem jsets_same : ∀ (L : List (Nat × (Nat × va_E))) (M : va_W), (∀ q ∈ L, M[q.1]? = some q.2) → jsets M L = M
  | [], _, _ => rfl
  | (i, c) :: r, M, h => by
    have h1 : M[i]? = some c := h (i, c) List.mem_cons_self
    have h2 : M.set i c = M := by
      apply List.ext_getElem?
      intro k
      by_cases hk : i = k
      · subst hk
        rw [List.getElem?_set_self (List.getElem?_eq_some_iff.mp h1).1, h1]
      · rw [List.getElem?_set_ne hk]
    show jsets (M.set i c) r = M
    rw [h2]
    exact jsets_same r M (fun q hq => h q (List.mem_cons_of_mem _ hq))
theorem zip_get : ∀ {α β : Type} (a : List α) (b : List β) (x : α) (y : β), (x, y) ∈ a.zip b → ∃ t : Nat, a[t]? = some x ∧ b[t]? = some y := by
  intro α β a b x y h
  obtain ⟨t, ht⟩ := List.getElem?_of_mem h
  rw [List.getElem?_zip_eq_some] at ht
  exact ⟨t, ht⟩
theorem map_get {M Mc : va_W} {is : List Nat} (hC : is.map (fun i => M[i]?) = Mc.map some) {t i : Nat} (h : is[t]? = some i) : ∃ c, Mc[t]? = some c ∧ M[i]? = some c := by
  have h1 : (is.map (fun i => M[i]?))[t]? = some (M[i]?) := by rw [List.getElem?_map, h]; rfl
  rw [hC, List.getElem?_map] at h1
  cases hm : Mc[t]? with
  | none => rw [hm] at h1; cases h1
  | some c =>
    rw [hm] at h1
    exact ⟨c, rfl, (Option.some.inj h1).symm⟩
theorem jput_same {M Mc : va_W} {is : List Nat} (hC : is.map (fun i => M[i]?) = Mc.map some) : jput M is Mc = M := by
  have hl : is.length = Mc.length := by have := congrArg List.length hC; simpa using this
  unfold jput
  rw [hl, List.drop_length, List.append_nil]
  refine jsets_same _ _ (fun q hq => ?_)
  obtain ⟨t, h1, h2⟩ := zip_get is Mc q.1 q.2 hq
  obtain ⟨c, h3, h4⟩ := map_get hC h1
  cases h2.symm.trans h3
  exact h4
theorem jput_world {A0 : Nat → Prop} {D : va_G} {cl : List vw_C} {M Mc N : va_W} {is : List Nat} {H H1 : Heap} (hP : va_P D cl M H) (hD : va_D A0 M) (hC : is.map (fun i => M[i]?) = Mc.map some)
    (hk : ∀ q : Nat, q < H.size → ¬ va_A Mc H.size q → H1[q]? = H[q]?) (hF : ∀ q, va_A Mc H.size q → A0 q) (hP1 : va_P D cl N H1) (hD1 : va_D (va_A Mc H.size) N)
    (hs : (N.take is.length).map Prod.fst = Mc.map Prod.fst) : va_P D cl (jput M is N) H1 ∧ va_D A0 (jput M is N) := by
  have hlen : is.length = Mc.length := by have := congrArg List.length hC; simpa using this
  have key : ∀ (k : Nat) (q : Nat × va_E), (jput M is N)[k]? = some q → (k < M.length ∧ ((∃ t : Nat, is[t]? = some k ∧ N[t]? = some q) ∨ (M[k]? = some q ∧ k ∉ is))) ∨ (M.length ≤ k ∧ N[is.length + (k - M.length)]? = some q) := by
    intro k q h
    unfold jput at h
    by_cases hl : k < (jsets M (is.zip N)).length
    · rw [List.getElem?_append_left hl] at h
      rw [jsets_len] at hl
      refine Or.inl ⟨hl, ?_⟩
      rcases jsets_get _ _ _ _ h with h1 | ⟨h1, h2⟩
      · obtain ⟨t, a, b⟩ := zip_get is N k q h1
        exact Or.inl ⟨t, a, b⟩
      · refine Or.inr ⟨h1, fun hm => ?_⟩
        obtain ⟨t, ht⟩ := List.getElem?_of_mem hm
        have htl : t < Mc.length := by rw [← hlen]; exact (List.getElem?_eq_some_iff.mp ht).1
        have hN : t < N.length := by
          have := congrArg List.length hs
          simp at this
          omega
        refine h2 N[t] ?_
        refine List.mem_of_getElem? (i := t) ?_
        rw [List.getElem?_zip_eq_some]
        exact ⟨ht, List.getElem?_eq_getElem hN⟩
    · rw [List.getElem?_append_right (by omega), List.getElem?_drop] at h
      rw [jsets_len] at hl h
      exact Or.inr ⟨by omega, h⟩
  have fst : ∀ (t : Nat) (q c : Nat × va_E), t < is.length → N[t]? = some q → Mc[t]? = some c → q.1 = c.1 := by
    intro t q c ht hq hc
    have h1 : ((N.take is.length).map Prod.fst)[t]? = some q.1 := by rw [List.getElem?_map, List.getElem?_take_of_lt ht, hq]; rfl
    rw [hs, List.getElem?_map, hc] at h1
    exact (Option.some.inj h1).symm
  have apart : ∀ (k : Nat) (q : Nat × va_E), M[k]? = some q → k ∉ is → q.1 < H.size ∧ ¬ va_A Mc H.size q.1 := by
    intro k q hq hni
    have hl := (hP k q hq).lt
    refine ⟨hl, fun h => ?_⟩
    rcases h with ⟨t, e, h⟩ | h
    · have ht : t < is.length := by rw [hlen]; exact (List.getElem?_eq_some_iff.mp h).1
      obtain ⟨c, h3, h4⟩ := map_get hC (List.getElem?_eq_getElem ht)
      cases h.symm.trans h3
      have hij := hD.1 k is[t] q (q.1, e) hq h4 rfl
      exact hni (hij ▸ List.getElem_mem ht)
    · omega
  have old : ∀ (k : Nat) (q : Nat × va_E), k < M.length → ((∃ t : Nat, is[t]? = some k ∧ N[t]? = some q) ∨ (M[k]? = some q ∧ k ∉ is)) → ∃ q0, M[k]? = some q0 ∧ q0.1 = q.1 := by
    intro k q _ h
    rcases h with ⟨t, h1, h2⟩ | ⟨h1, _⟩
    · obtain ⟨c, h3, h4⟩ := map_get hC h1
      exact ⟨c, h4, (fst t q c (List.getElem?_eq_some_iff.mp h1).1 h2 h3).symm⟩
    · exact ⟨q, h1, rfl⟩
  have mixed : ∀ (i j : Nat) (x y : Nat × va_E), i < M.length → ((∃ t : Nat, is[t]? = some i ∧ N[t]? = some x) ∨ (M[i]? = some x ∧ i ∉ is)) → N[is.length + j]? = some y → x.1 ≠ y.1 := by
    intro i j x y _ hi hj hxy
    rcases hi with ⟨t, h1, h2⟩ | ⟨h1, h2⟩
    · have := hD1.1 _ _ x y h2 hj hxy
      have := (List.getElem?_eq_some_iff.mp h1).1
      omega
    · exact (apart i x h1 h2).2 (hxy ▸ hD1.2 _ y hj)
  refine ⟨fun k q h => ?_, fun i j x y hi hj hxy => ?_, fun k q h => ?_⟩
  · rcases key k q h with ⟨_, ⟨t, _, h2⟩ | ⟨h1, h2⟩⟩ | ⟨_, h1⟩
    · exact hP1 t q h2
    · obtain ⟨g1, g2⟩ := apart k q h1 h2
      exact (hP k q h1).kept (hk q.1 g1 g2)
    · exact hP1 _ q h1
  · rcases key i x hi with ⟨li, gi⟩ | ⟨li, gi⟩ <;> rcases key j y hj with ⟨lj, gj⟩ | ⟨lj, gj⟩
    · obtain ⟨x0, h1, h2⟩ := old i x li gi
      obtain ⟨y0, h3, h4⟩ := old j y lj gj
      exact hD.1 i j x0 y0 h1 h3 (h2.trans (hxy.trans h4.symm))
    · exact absurd hxy (mixed i _ x y li gi gj)
    · exact absurd hxy.symm (mixed j _ y x lj gj gi)
    · have := hD1.1 _ _ x y gi gj hxy
      omega
  · rcases key k q h with ⟨lk, g⟩ | ⟨_, g⟩
    · obtain ⟨q0, h1, h2⟩ := old k q lk g
      rw [← h2]
      exact hD.2 k q0 h1
    · exact hF _ (hD1.2 _ q g)
