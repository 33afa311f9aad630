def R_law : String := "ShapeMinimaLaw"
def lw_P (b : Addr) (xs : List Int32) (args : Array Value) (s : State) : Prop := args = #[.ref b] ∧ s.IntsAt b xs ∧ xs.length ≤ 3072 ∧ (Jvm.Cond.and given_1 narrow_1).before args s = true
def lw_Q (_ : Array Value) (s : State) (o : Outcome) (t : State) : Prop := o = .returned (some (.int 1)) ∧ Framed s o t [] 600000 7302250
def lw_Z (below : List Frame) (a : Array Value) (s : State) : State → Prop := fun t => ∃ o, t.status = .running ∧ Ended t below o ∧ lw_Q a s o t
/-- the law's own end, with 1 on the stack, nothing written that was there before, its room as the claim has it -/
theorem lw_ret {p : Program} {l : Launch} {e : Env} {s : State} {m : MethodId} {below : List Frame} {meth : Method} {c : Code} {b : Nat} (hx : p.tables.exec = Jvm.exec) (hb : c.code = code) (hr : meth.sig.returnType = ret) (hlocks : meth.locks = false) {pc : Nat} {H : Heap} {ls : Array Slot} (hdg : decode code pc = .ok (.ireturn, 1)) : W p l e room_1 s m #[Value.ref b] below meth c H [] 600000 7302250 (lw_Z below #[Value.ref b] s) (F0 m pc ls [.int 1]) := by
  intro T hT X
  obtain ⟨fs, hret, hrun, hended, hW, hframe⟩ := X.leave (v := some (.int 1)) (hlocks := hlocks) (fun h => by rw [hr] at h; cases h)
  have hmeth' : T.vm.method? m = some meth := X.method'
  refine ⟨T.setFrames fs, ?_, .returned (some (.int 1)), hrun, hended, rfl, ⟨_, rfl⟩, hW, hframe⟩
  jvm_step X.here [X.here.top, hx, hb, hdg, hmeth', hr, ret, narrow_b1]
  (try refine ⟨rfl, ?_⟩); (try refine ⟨rfl, ?_⟩)
  first | (intro acts; rw [hret _ acts rfl rfl rfl]) | rw [hret _ _ rfl rfl rfl]
  exact Steps.refl _
/-- what holds at the law's entry: the machine, the code, the tables' words (any of lw_tbl by 'hts w (by decide +kernel)'), the script of L ints xs at the cell b, what the Statement gives of the start (any of its parts by flat_of_before) -/
def lw_At (p : Program) (s : State) (m : MethodId) (meth : Method) (c : Code) (b L : Nat) (xs : Nat → Int32) : Prop :=
  p.tables.exec = Jvm.exec ∧ c.code = code ∧ meth.sig.returnType = ret ∧ c.maxLocals = 4 ∧ s.vm.findClass R_law = some m.cls ∧ (∀ w ∈ lw_tbl, w.before #[Value.ref b] s = true) ∧ va_X b L xs s s.heap ∧ b < s.heap.size ∧ meth.locks = false ∧ (Jvm.Cond.and given_1 narrow_1).before #[Value.ref b] s = true

abbrev YL (nm : String) : jY := (⟨RL, nm, "([I)Z"⟩, cL_law, 4, ret, 0, 0, 0)
abbrev ZL (b L : Nat) (xs : Nat → Int32) : jZ := (room_1, fun args s below _ => lw_Z below args s, fun args s A => args = #[.ref b] ∧ A = (fun q => s.heap.size ≤ q) ∧ va_X b L xs s s.heap ∧ b < s.heap.size)
abbrev lvL (b : Nat) (ad ma : Nat → Nat) (i : Nat) : List (Nat × Value) := [(0, .ref b), (1, .ref (ad 0)), (2, .ref (ma 0)), (3, .int (iI (i : Int)))]
/-- the script's length, an int of it -/
theorem j_slen {E : jD} {nm : String} {b L : Nat} {xs : Nat → Int32} {k n pc : Nat} {lv : List (Nat × Value)} {st : List Value} {M : va_W} (pc' : Nat) (hdg : decode cL_law pc = .ok (.arraylength, 1)) (kk : J E (YL nm) (ZL b L xs) k n pc' lv (.int (iI (L : Int)) :: st) M) (hpc : pc + 1 = pc' := by rfl) : J E (YL nm) (ZL b L xs) k n pc lv (.ref b :: st) M := by
  subst hpc
  intro p l e s m args below meth c A C H locs ls hl hP hD hS
  obtain ⟨hx, hb, hml, hr, hlk, ho, hnm, hts, hK, hA, hX⟩ := id C
  obtain ⟨h1, h2, h3, h4⟩ := hX
  exact va_slen hx hb h3 h4 (by rw [h2]; exact Nat.not_le.mpr h4) hS hdg (kk p l e s m args below meth c A C H locs ls hl hP hD hS)
theorem j_sld {E : jD} {nm : String} {b L : Nat} {xs : Nat → Int32} {k n pc : Nat} {lv : List (Nat × Value)} {st : List Value} {M : va_W} (pc' i : Nat) {z : Int} (hdg : decode cL_law pc = .ok (.iaload, 1)) (hz : z = (i : Int)) (hi : i < L) (hL : L ≤ 3072) (kk : J E (YL nm) (ZL b L xs) k n pc' lv (.int (iI (xs i).toInt) :: st) M) (hpc : pc + 1 = pc' := by rfl) : J E (YL nm) (ZL b L xs) k n pc lv (.int (iI z) :: .ref b :: st) M := by
  subst hpc
  subst hz
  rw [iI_x] at kk
  intro p l e s m args below meth c A C H locs ls hl hP hD hS
  obtain ⟨hx, hb, hml, hr, hlk, ho, hnm, hts, hK, hA, hX⟩ := id C
  obtain ⟨h1, h2, h3, h4⟩ := hX
  refine va_sld hx hb h3 h4 (by rw [h2]; exact Nat.not_le.mpr h4) hS (iI_in hi (by omega)) hdg ?_
  rw [iI_clamp (by omega)]
  exact kk p l e s m args below meth c A C H locs ls hl hP hD hS
/-- the law's end -/
theorem j_law {E : jD} {nm : String} {b L : Nat} {xs : Nat → Int32} {k n pc : Nat} {lv : List (Nat × Value)} {M : va_W} (hdg : decode cL_law pc = .ok (.ireturn, 1)) (h1 : Nat.ble k 600000 = true) (h2 : Nat.ble n 7302250 = true) : J E (YL nm) (ZL b L xs) k n pc lv [.int (iI 1)] M := by
  intro p l e s m args below meth c A C H locs ls hl hP hD hS
  obtain ⟨hx, hb, hml, hr, hlk, ho, hnm, hts, hK, hA, hX⟩ := id C
  obtain ⟨rfl, g2, g3, g4⟩ := hX
  refine va_forget (fun q hq => ?_) (W.widen (Nat.le_of_ble_eq_true h1) (Nat.le_of_ble_eq_true h2) ?_)
  · have := hS.2.2 q hq
    rw [g2] at this
    exact this
  · exact lw_ret hx hb hr hlk hdg
theorem j_same {E : jD} {Y : jY} {Z : jZ} {k n pc : Nat} {lv : List (Nat × Value)} {st : List Value} {M : va_W} (tgt : Nat) {z : Int32} {off : Int} (hdg : decode Y.2.1 pc = .ok (.if_icmp .eq off, 3)) (kt : J E Y Z k n tgt lv st M) (ht : (pc : Int) + off = (tgt : Int) := by decide) : J E Y Z k n pc lv (.int z :: .int z :: st) M := by
  intro p l e s m args below meth c A C H locs ls hl hP hD hS
  obtain ⟨hx, hb, hml, hr, hlk, ho, hnm, hts, hK, hA, hX⟩ := id C
  exact lv_icmp_eq hx hb hdg ht (fun _ => kt p l e s m args below meth c A C H locs ls hl hP hD hS) (fun h => absurd rfl h)
/-! two worlds side by side -/
theorem left_sub (C M : va_W) : (List.range C.length).map (fun i => (C ++ M)[i]?) = C.map some := by
  rw [← all_sub C]
  apply List.map_congr_left
  intro i hi
  exact List.getElem?_append_left (List.mem_range.mp hi)
theorem right_sub (C M : va_W) : ((List.range M.length).map (fun i => i + C.length)).map (fun i => (C ++ M)[i]?) = M.map some := by
  rw [← all_sub M, List.map_map]
  apply List.map_congr_left
  intro i hi
  show (C ++ M)[i + C.length]? = M[i]?
  rw [List.getElem?_append_right (by omega), Nat.add_sub_cancel]
theorem range_at {n t i : Nat} (h : (List.range n)[t]? = some i) : t = i ∧ t < n := by
  obtain ⟨ht, e⟩ := List.getElem?_eq_some_iff.mp h
  rw [List.getElem_range] at e
  rw [List.length_range] at ht
  exact ⟨e, ht⟩
theorem jput_left {C M N : va_W} (h : N.length = C.length) : jput (C ++ M) (List.range C.length) N = N ++ M := by
  refine jput_eq (by rw [List.length_range, h]) (by rw [List.length_append, List.length_append, h]) (fun t i q a b => ?_) (fun i hi => ?_)
  · obtain ⟨rfl, ht⟩ := range_at a
    rw [List.getElem?_append_left (by omega)]
    exact b
  · have hi : C.length ≤ i := Nat.not_lt.mp (fun q => hi (List.mem_range.mpr q))
    rw [List.getElem?_append_right (by omega), List.getElem?_append_right hi, h]
theorem jput_right {C M N : va_W} (h : N.length = M.length) : jput (C ++ M) ((List.range M.length).map (fun i => i + C.length)) N = C ++ N := by
  refine jput_eq (by rw [List.length_map, List.length_range, h]) (by rw [List.length_append, List.length_append, h]) (fun t i q a b => ?_) (fun i hi => ?_)
  · rw [List.getElem?_map] at a
    obtain ⟨j, hj, rfl⟩ := Option.map_eq_some_iff.mp a
    obtain ⟨rfl, ht⟩ := range_at hj
    rw [List.getElem?_append_right (by omega), Nat.add_sub_cancel]
    exact b
  · by_cases hc : i < C.length
    · rw [List.getElem?_append_left hc, List.getElem?_append_left hc]
    · have hm : ¬ i - C.length < M.length := fun q => hi (List.mem_map.mpr ⟨i - C.length, List.mem_range.mpr q, by omega⟩)
      rw [List.getElem?_eq_none (by rw [List.length_append]; omega), List.getElem?_eq_none (by rw [List.length_append]; omega)]
theorem nd_right (c n : Nat) : va_nd ((List.range n).map (fun i => i + c)) = true := va_nd_range _ (List.Pairwise.map _ (fun a b h (e : a + c = b + c) => h (Nat.add_right_cancel e)) List.nodup_range)
theorem fst_len {N C : va_W} (h : N.map Prod.fst = C.map Prod.fst) : N.length = C.length := by
  have := congrArg List.length h
  rwa [List.length_map, List.length_map] at this
theorem j_callX {E : jD} {Y : jY} {Z : jZ} {k n pc : Nat} {lv : List (Nat × Value)} {st : List Value} {C M : va_W} (pc' : Nat) (Y' : jY) (As : List Value) {idx np : Nat} {rest : List Value} {a ci : Nat} {r : vw_C} {v : Value} {QC : va_W → Prop} (hm : MC E Y' (.ref a :: As) C (fun r N => r = some v ∧ QC N)) (hQ : ∀ N, QC N → N.map Prod.fst = C.map Prod.fst) (hY : jMV Y' np) (hlk0 : Cond.methodLink Y.1.cls idx Y'.1 ∈ jT) (hdg : decode Y.2.1 pc = .ok (.invokevirtual idx, 3)) (hc : vwCl[ci]? = some r) (hcn : r.1 = Y'.1.cls) (hre : ∃ fs, C[0]? = some (a, jO ci fs)) (hst : st = As.reverse ++ .ref a :: rest) (hnp : As.length = np) (hw : Nat.ble ((rest.map fun v => v.category).sum) 8 = true) (hfit : jfit Z.1 Y' k n = true) (h0 : Y'.2.2.2.2.2 = (0, 0)) (kk : ∀ N, QC N → J E Y Z k n pc' lv (v :: rest) (N ++ M)) (hpc : pc + 3 = pc' := by rfl) : J E Y Z k n pc lv st (C ++ M) := by
  obtain ⟨fs, hre⟩ := hre
  refine j_callV pc' Y' (List.range C.length) As hm hY hlk0 hdg 0 hc hcn hre hst hnp hw hfit (left_sub C M) (va_nd_range _ List.nodup_range) (fun r N h => ?_) (fun r N h => ?_) hpc
  · have hl := fst_len (hQ N h.2)
    rw [List.take_of_length_le (by rw [List.length_range]; omega)]
    exact hQ N h.2
  · obtain ⟨rfl, hN⟩ := h
    rw [jput_left (fst_len (hQ N hN)), h0]
    exact kk N hN
theorem j_callM {E : jD} {Y : jY} {Z : jZ} {k n pc : Nat} {lv : List (Nat × Value)} {st : List Value} {C M : va_W} (pc' : Nat) (Y' : jY) (As : List Value) {idx np : Nat} {rest : List Value} {a ci : Nat} {r : vw_C} {v : Value} {QC : va_W → Prop} (hm : MC E Y' (.ref a :: As) M (fun r N => r = some v ∧ QC N)) (hQ : ∀ N, QC N → N.map Prod.fst = M.map Prod.fst) (hY : jMV Y' np) (hlk0 : Cond.methodLink Y.1.cls idx Y'.1 ∈ jT) (hdg : decode Y.2.1 pc = .ok (.invokevirtual idx, 3)) (hc : vwCl[ci]? = some r) (hcn : r.1 = Y'.1.cls) (hre : ∃ fs, M[0]? = some (a, jO ci fs)) (hst : st = As.reverse ++ .ref a :: rest) (hnp : As.length = np) (hw : Nat.ble ((rest.map fun v => v.category).sum) 8 = true) (hfit : jfit Z.1 Y' k n = true) (h0 : Y'.2.2.2.2.2 = (0, 0)) (kk : ∀ N, QC N → J E Y Z k n pc' lv (v :: rest) (C ++ N)) (hpc : pc + 3 = pc' := by rfl) : J E Y Z k n pc lv st (C ++ M) := by
  obtain ⟨fs, hre⟩ := hre
  refine j_callV pc' Y' ((List.range M.length).map (fun i => i + C.length)) As hm hY hlk0 hdg 0 hc hcn hre hst hnp hw hfit (right_sub C M) (nd_right _ _) (fun r N h => ?_) (fun r N h => ?_) hpc
  · have hl := fst_len (hQ N h.2)
    rw [List.take_of_length_le (by rw [List.length_map, List.length_range]; omega)]
    exact hQ N h.2
  · obtain ⟨rfl, hN⟩ := h
    rw [jput_right (fst_len (hQ N hN)), h0]
    exact kk N hN
theorem Rel_at {E : jD} {ad ma : Nat → Nat} {C M : va_W} (h : Rel E ad ma C M) : (∃ fs, C[0]? = some (ad 0, jO 6 fs)) ∧ ∃ fs, M[0]? = some (ma 0, jO 7 fs) := by
  refine Rel_elim (P := fun C M => (∃ fs, C[0]? = some (ad 0, jO 6 fs)) ∧ ∃ fs, M[0]? = some (ma 0, jO 7 fs)) h ?_
  intros
  exact ⟨⟨_, rfl⟩, ⟨_, rfl⟩⟩
theorem and63 (x : Int32) : ∃ v : Nat, v < 64 ∧ iI x.toInt &&& iI 63 = iI (v : Int) := by
  refine ⟨(x.toBitVec &&& 63#32).toNat, ?_, ?_⟩
  · rw [BitVec.toNat_and]
    exact Nat.lt_of_le_of_lt Nat.and_le_right (by decide)
  · rw [iI_x]
    apply Int32.toBitVec_inj.mp
    rw [Int32.toBitVec_and, show (iI 63).toBitVec = 63#32 from by decide +kernel]
    show _ = (Int32.ofInt ((x.toBitVec &&& 63#32).toNat : Int)).toBitVec
    rw [Int32.toBitVec_ofInt, BitVec.ofInt_natCast, BitVec.ofNat_toNat, BitVec.setWidth_eq]
