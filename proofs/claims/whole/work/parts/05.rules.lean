theorem j_top {E : jD} {Y : jY} {Z : jZ} {k n pc : Nat} {lv : List (Nat × Value)} {st : List Value} {M : va_W} {x : Int32} (z : Int) (h : x = iI z) (kk : J E Y Z k n pc lv (.int (iI z) :: st) M) : J E Y Z k n pc lv (.int x :: st) M := by
  rw [h]; exact kk
theorem j_eqM {E : jD} {Y : jY} {Z : jZ} {k n pc : Nat} {lv : List (Nat × Value)} {st : List Value} {M : va_W} {M' : va_W} (h : M = M') (kk : J E Y Z k n pc lv st M') : J E Y Z k n pc lv st M := by
  rw [h]; exact kk
theorem j_eqS {E : jD} {Y : jY} {Z : jZ} {k n pc : Nat} {lv : List (Nat × Value)} {st : List Value} {M : va_W} {st' : List Value} (h : st = st') (kk : J E Y Z k n pc lv st' M) : J E Y Z k n pc lv st M := by
  rw [h]; exact kk
theorem j_eqL {E : jD} {Y : jY} {Z : jZ} {k n pc : Nat} {lv : List (Nat × Value)} {st : List Value} {M : va_W} {lv' : List (Nat × Value)} (h : lv = lv') (kk : J E Y Z k n pc lv' st M) : J E Y Z k n pc lv st M := by
  rw [h]; exact kk
theorem j_widen {E : jD} {Y : jY} {Z : jZ} {k n pc : Nat} {lv : List (Nat × Value)} {st : List Value} {M : va_W} {k' n' : Nat} (h1 : k ≤ k') (h2 : n ≤ n') (kk : J E Y Z k' n' pc lv st M) : J E Y Z k n pc lv st M := by
  intro p l e s m args below meth c A C H locs ls hl hP hD hS
  obtain ⟨hx, hb, hml, hr, hlk, ho, hnm, hts, hK, hA, hX⟩ := id C
  exact W.widen h1 h2 (kk p l e s m args below meth c A C H locs ls hl hP hD hS)
theorem j_sub {E : jD} {Y : jY} {Z : jZ} {k n pc : Nat} {lv : List (Nat × Value)} {st : List Value} {M : va_W} {lv' : List (Nat × Value)} (h : ∀ q ∈ lv', q ∈ lv) (kk : J E Y Z k n pc lv' st M) : J E Y Z k n pc lv st M := by
  intro p l e s m args below meth c A C H locs ls hl hP hD hS
  obtain ⟨hx, hb, hml, hr, hlk, ho, hnm, hts, hK, hA, hX⟩ := id C
  exact kk p l e s m args below meth c A C H locs ls (lv_has_sub hl h) hP hD hS
theorem j_iconst {E : jD} {Y : jY} {Z : jZ} {k n pc : Nat} {lv : List (Nat × Value)} {st : List Value} {M : va_W} (pc' : Nat) {z : Int} (hdg : decode Y.2.1 pc = .ok (.iconst z, 1)) (kk : J E Y Z k n pc' lv (.int (iI z) :: st) M) (hpc : pc + 1 = pc' := by rfl) : J E Y Z k n pc lv (st) M := by
  subst hpc
  intro p l e s m args below meth c A C H locs ls hl hP hD hS
  obtain ⟨hx, hb, hml, hr, hlk, ho, hnm, hts, hK, hA, hX⟩ := id C
  exact lv_iconst hx hb hdg rfl (kk p l e s m args below meth c A C H locs ls hl hP hD hS)
theorem j_bipush {E : jD} {Y : jY} {Z : jZ} {k n pc : Nat} {lv : List (Nat × Value)} {st : List Value} {M : va_W} (pc' : Nat) {z : Int} (hdg : decode Y.2.1 pc = .ok (.bipush z, 2)) (hv : (Int8.ofInt z).toInt32 = iI z) (kk : J E Y Z k n pc' lv (.int (iI z) :: st) M) (hpc : pc + 2 = pc' := by rfl) : J E Y Z k n pc lv (st) M := by
  subst hpc
  intro p l e s m args below meth c A C H locs ls hl hP hD hS
  obtain ⟨hx, hb, hml, hr, hlk, ho, hnm, hts, hK, hA, hX⟩ := id C
  exact lv_bipush hx hb hdg hv (kk p l e s m args below meth c A C H locs ls hl hP hD hS)
theorem j_sipush {E : jD} {Y : jY} {Z : jZ} {k n pc : Nat} {lv : List (Nat × Value)} {st : List Value} {M : va_W} (pc' : Nat) {z : Int} (hdg : decode Y.2.1 pc = .ok (.sipush z, 3)) (hv : (Int16.ofInt z).toInt32 = iI z) (kk : J E Y Z k n pc' lv (.int (iI z) :: st) M) (hpc : pc + 3 = pc' := by rfl) : J E Y Z k n pc lv (st) M := by
  subst hpc
  intro p l e s m args below meth c A C H locs ls hl hP hD hS
  obtain ⟨hx, hb, hml, hr, hlk, ho, hnm, hts, hK, hA, hX⟩ := id C
  exact lv_sipush hx hb hdg hv (kk p l e s m args below meth c A C H locs ls hl hP hD hS)
theorem j_lconst {E : jD} {Y : jY} {Z : jZ} {k n pc : Nat} {lv : List (Nat × Value)} {st : List Value} {M : va_W} (pc' : Nat) {z : Fin 2} (v : Int64) (hdg : decode Y.2.1 pc = .ok (.lconst z, 1)) (hv : Int64.ofNat (z : Nat) = v) (kk : J E Y Z k n pc' lv (.long v :: st) M) (hpc : pc + 1 = pc' := by rfl) : J E Y Z k n pc lv (st) M := by
  subst hpc
  intro p l e s m args below meth c A C H locs ls hl hP hD hS
  obtain ⟨hx, hb, hml, hr, hlk, ho, hnm, hts, hK, hA, hX⟩ := id C
  exact lv_lconst hx hb hdg hv (kk p l e s m args below meth c A C H locs ls hl hP hD hS)
theorem j_ldcw {E : jD} {Y : jY} {Z : jZ} {k n pc : Nat} {lv : List (Nat × Value)} {st : List Value} {M : va_W} (pc' : Nat) {i : Nat} {v : Int32} (hc : Cond.constant Y.1.cls i v ∈ jT) (hdg : decode Y.2.1 pc = .ok (.ldc_w i, 3)) (kk : J E Y Z k n pc' lv (.int v :: st) M) (hpc : pc + 3 = pc' := by rfl) : J E Y Z k n pc lv (st) M := by
  subst hpc
  intro p l e s m args below meth c A C H locs ls hl hP hD hS
  obtain ⟨hx, hb, hml, hr, hlk, ho, hnm, hts, hK, hA, hX⟩ := id C
  exact lv_ldcw hx hb ho (hts _ hc) hdg (kk p l e s m args below meth c A C H locs ls hl hP hD hS)
theorem j_ldc2 {E : jD} {Y : jY} {Z : jZ} {k n pc : Nat} {lv : List (Nat × Value)} {st : List Value} {M : va_W} (pc' : Nat) {i : Nat} {v : Int64} (hc : Cond.constantLong Y.1.cls i v ∈ jT) (hdg : decode Y.2.1 pc = .ok (.ldc2_w i, 3)) (kk : J E Y Z k n pc' lv (.long v :: st) M) (hpc : pc + 3 = pc' := by rfl) : J E Y Z k n pc lv (st) M := by
  subst hpc
  intro p l e s m args below meth c A C H locs ls hl hP hD hS
  obtain ⟨hx, hb, hml, hr, hlk, ho, hnm, hts, hK, hA, hX⟩ := id C
  exact lv_ldc2 hx hb ho (hts _ hc) hdg (kk p l e s m args below meth c A C H locs ls hl hP hD hS)
theorem j_iload_0 {E : jD} {Y : jY} {Z : jZ} {k n pc : Nat} {lv : List (Nat × Value)} {st : List Value} {M : va_W} (pc' : Nat) {x : Int32} (hdg : decode Y.2.1 pc = .ok (.iload_n 0, 1)) (hv : jl lv 0 = some (.int x)) (kk : J E Y Z k n pc' lv (.int x :: st) M) (hpc : pc + 1 = pc' := by rfl) : J E Y Z k n pc lv (st) M := by
  subst hpc
  intro p l e s m args below meth c A C H locs ls hl hP hD hS
  obtain ⟨hx, hb, hml, hr, hlk, ho, hnm, hts, hK, hA, hX⟩ := id C
  exact lv_iload_n (i := 0) hx hb hdg rfl (hl.2.2 _ (jl_mem hv)) (kk p l e s m args below meth c A C H locs ls hl hP hD hS)
theorem j_iload_1 {E : jD} {Y : jY} {Z : jZ} {k n pc : Nat} {lv : List (Nat × Value)} {st : List Value} {M : va_W} (pc' : Nat) {x : Int32} (hdg : decode Y.2.1 pc = .ok (.iload_n 1, 1)) (hv : jl lv 1 = some (.int x)) (kk : J E Y Z k n pc' lv (.int x :: st) M) (hpc : pc + 1 = pc' := by rfl) : J E Y Z k n pc lv (st) M := by
  subst hpc
  intro p l e s m args below meth c A C H locs ls hl hP hD hS
  obtain ⟨hx, hb, hml, hr, hlk, ho, hnm, hts, hK, hA, hX⟩ := id C
  exact lv_iload_n (i := 1) hx hb hdg rfl (hl.2.2 _ (jl_mem hv)) (kk p l e s m args below meth c A C H locs ls hl hP hD hS)
theorem j_iload_2 {E : jD} {Y : jY} {Z : jZ} {k n pc : Nat} {lv : List (Nat × Value)} {st : List Value} {M : va_W} (pc' : Nat) {x : Int32} (hdg : decode Y.2.1 pc = .ok (.iload_n 2, 1)) (hv : jl lv 2 = some (.int x)) (kk : J E Y Z k n pc' lv (.int x :: st) M) (hpc : pc + 1 = pc' := by rfl) : J E Y Z k n pc lv (st) M := by
  subst hpc
  intro p l e s m args below meth c A C H locs ls hl hP hD hS
  obtain ⟨hx, hb, hml, hr, hlk, ho, hnm, hts, hK, hA, hX⟩ := id C
  exact lv_iload_n (i := 2) hx hb hdg rfl (hl.2.2 _ (jl_mem hv)) (kk p l e s m args below meth c A C H locs ls hl hP hD hS)
theorem j_iload_3 {E : jD} {Y : jY} {Z : jZ} {k n pc : Nat} {lv : List (Nat × Value)} {st : List Value} {M : va_W} (pc' : Nat) {x : Int32} (hdg : decode Y.2.1 pc = .ok (.iload_n 3, 1)) (hv : jl lv 3 = some (.int x)) (kk : J E Y Z k n pc' lv (.int x :: st) M) (hpc : pc + 1 = pc' := by rfl) : J E Y Z k n pc lv (st) M := by
  subst hpc
  intro p l e s m args below meth c A C H locs ls hl hP hD hS
  obtain ⟨hx, hb, hml, hr, hlk, ho, hnm, hts, hK, hA, hX⟩ := id C
  exact lv_iload_n (i := 3) hx hb hdg rfl (hl.2.2 _ (jl_mem hv)) (kk p l e s m args below meth c A C H locs ls hl hP hD hS)
theorem j_iload {E : jD} {Y : jY} {Z : jZ} {k n pc : Nat} {lv : List (Nat × Value)} {st : List Value} {M : va_W} (pc' : Nat) {i : Nat} {x : Int32} (hdg : decode Y.2.1 pc = .ok (.iload i, 2)) (hv : jl lv i = some (.int x)) (kk : J E Y Z k n pc' lv (.int x :: st) M) (hpc : pc + 2 = pc' := by rfl) : J E Y Z k n pc lv (st) M := by
  subst hpc
  intro p l e s m args below meth c A C H locs ls hl hP hD hS
  obtain ⟨hx, hb, hml, hr, hlk, ho, hnm, hts, hK, hA, hX⟩ := id C
  exact lv_iload hx hb hdg (hl.2.2 _ (jl_mem hv)) (kk p l e s m args below meth c A C H locs ls hl hP hD hS)
theorem j_lload_0 {E : jD} {Y : jY} {Z : jZ} {k n pc : Nat} {lv : List (Nat × Value)} {st : List Value} {M : va_W} (pc' : Nat) {x : Int64} (hdg : decode Y.2.1 pc = .ok (.lload_n 0, 1)) (hv : jl lv 0 = some (.long x)) (kk : J E Y Z k n pc' lv (.long x :: st) M) (hpc : pc + 1 = pc' := by rfl) : J E Y Z k n pc lv (st) M := by
  subst hpc
  intro p l e s m args below meth c A C H locs ls hl hP hD hS
  obtain ⟨hx, hb, hml, hr, hlk, ho, hnm, hts, hK, hA, hX⟩ := id C
  exact lv_lload_n (i := 0) hx hb hdg rfl (hl.2.2 _ (jl_mem hv)) (kk p l e s m args below meth c A C H locs ls hl hP hD hS)
theorem j_lload_1 {E : jD} {Y : jY} {Z : jZ} {k n pc : Nat} {lv : List (Nat × Value)} {st : List Value} {M : va_W} (pc' : Nat) {x : Int64} (hdg : decode Y.2.1 pc = .ok (.lload_n 1, 1)) (hv : jl lv 1 = some (.long x)) (kk : J E Y Z k n pc' lv (.long x :: st) M) (hpc : pc + 1 = pc' := by rfl) : J E Y Z k n pc lv (st) M := by
  subst hpc
  intro p l e s m args below meth c A C H locs ls hl hP hD hS
  obtain ⟨hx, hb, hml, hr, hlk, ho, hnm, hts, hK, hA, hX⟩ := id C
  exact lv_lload_n (i := 1) hx hb hdg rfl (hl.2.2 _ (jl_mem hv)) (kk p l e s m args below meth c A C H locs ls hl hP hD hS)
theorem j_lload_2 {E : jD} {Y : jY} {Z : jZ} {k n pc : Nat} {lv : List (Nat × Value)} {st : List Value} {M : va_W} (pc' : Nat) {x : Int64} (hdg : decode Y.2.1 pc = .ok (.lload_n 2, 1)) (hv : jl lv 2 = some (.long x)) (kk : J E Y Z k n pc' lv (.long x :: st) M) (hpc : pc + 1 = pc' := by rfl) : J E Y Z k n pc lv (st) M := by
  subst hpc
  intro p l e s m args below meth c A C H locs ls hl hP hD hS
  obtain ⟨hx, hb, hml, hr, hlk, ho, hnm, hts, hK, hA, hX⟩ := id C
  exact lv_lload_n (i := 2) hx hb hdg rfl (hl.2.2 _ (jl_mem hv)) (kk p l e s m args below meth c A C H locs ls hl hP hD hS)
theorem j_lload_3 {E : jD} {Y : jY} {Z : jZ} {k n pc : Nat} {lv : List (Nat × Value)} {st : List Value} {M : va_W} (pc' : Nat) {x : Int64} (hdg : decode Y.2.1 pc = .ok (.lload_n 3, 1)) (hv : jl lv 3 = some (.long x)) (kk : J E Y Z k n pc' lv (.long x :: st) M) (hpc : pc + 1 = pc' := by rfl) : J E Y Z k n pc lv (st) M := by
  subst hpc
  intro p l e s m args below meth c A C H locs ls hl hP hD hS
  obtain ⟨hx, hb, hml, hr, hlk, ho, hnm, hts, hK, hA, hX⟩ := id C
  exact lv_lload_n (i := 3) hx hb hdg rfl (hl.2.2 _ (jl_mem hv)) (kk p l e s m args below meth c A C H locs ls hl hP hD hS)
theorem j_lload {E : jD} {Y : jY} {Z : jZ} {k n pc : Nat} {lv : List (Nat × Value)} {st : List Value} {M : va_W} (pc' : Nat) {i : Nat} {x : Int64} (hdg : decode Y.2.1 pc = .ok (.lload i, 2)) (hv : jl lv i = some (.long x)) (kk : J E Y Z k n pc' lv (.long x :: st) M) (hpc : pc + 2 = pc' := by rfl) : J E Y Z k n pc lv (st) M := by
  subst hpc
  intro p l e s m args below meth c A C H locs ls hl hP hD hS
  obtain ⟨hx, hb, hml, hr, hlk, ho, hnm, hts, hK, hA, hX⟩ := id C
  exact lv_lload hx hb hdg (hl.2.2 _ (jl_mem hv)) (kk p l e s m args below meth c A C H locs ls hl hP hD hS)
theorem j_aload_0 {E : jD} {Y : jY} {Z : jZ} {k n pc : Nat} {lv : List (Nat × Value)} {st : List Value} {M : va_W} (pc' : Nat) {x : Nat} (hdg : decode Y.2.1 pc = .ok (.aload_n 0, 1)) (hv : jl lv 0 = some (.ref x)) (kk : J E Y Z k n pc' lv (.ref x :: st) M) (hpc : pc + 1 = pc' := by rfl) : J E Y Z k n pc lv (st) M := by
  subst hpc
  intro p l e s m args below meth c A C H locs ls hl hP hD hS
  obtain ⟨hx, hb, hml, hr, hlk, ho, hnm, hts, hK, hA, hX⟩ := id C
  exact lv_aload_n (i := 0) hx hb hdg rfl (hl.2.2 _ (jl_mem hv)) (kk p l e s m args below meth c A C H locs ls hl hP hD hS)
theorem j_aload_1 {E : jD} {Y : jY} {Z : jZ} {k n pc : Nat} {lv : List (Nat × Value)} {st : List Value} {M : va_W} (pc' : Nat) {x : Nat} (hdg : decode Y.2.1 pc = .ok (.aload_n 1, 1)) (hv : jl lv 1 = some (.ref x)) (kk : J E Y Z k n pc' lv (.ref x :: st) M) (hpc : pc + 1 = pc' := by rfl) : J E Y Z k n pc lv (st) M := by
  subst hpc
  intro p l e s m args below meth c A C H locs ls hl hP hD hS
  obtain ⟨hx, hb, hml, hr, hlk, ho, hnm, hts, hK, hA, hX⟩ := id C
  exact lv_aload_n (i := 1) hx hb hdg rfl (hl.2.2 _ (jl_mem hv)) (kk p l e s m args below meth c A C H locs ls hl hP hD hS)
theorem j_aload_2 {E : jD} {Y : jY} {Z : jZ} {k n pc : Nat} {lv : List (Nat × Value)} {st : List Value} {M : va_W} (pc' : Nat) {x : Nat} (hdg : decode Y.2.1 pc = .ok (.aload_n 2, 1)) (hv : jl lv 2 = some (.ref x)) (kk : J E Y Z k n pc' lv (.ref x :: st) M) (hpc : pc + 1 = pc' := by rfl) : J E Y Z k n pc lv (st) M := by
  subst hpc
  intro p l e s m args below meth c A C H locs ls hl hP hD hS
  obtain ⟨hx, hb, hml, hr, hlk, ho, hnm, hts, hK, hA, hX⟩ := id C
  exact lv_aload_n (i := 2) hx hb hdg rfl (hl.2.2 _ (jl_mem hv)) (kk p l e s m args below meth c A C H locs ls hl hP hD hS)
theorem j_aload_3 {E : jD} {Y : jY} {Z : jZ} {k n pc : Nat} {lv : List (Nat × Value)} {st : List Value} {M : va_W} (pc' : Nat) {x : Nat} (hdg : decode Y.2.1 pc = .ok (.aload_n 3, 1)) (hv : jl lv 3 = some (.ref x)) (kk : J E Y Z k n pc' lv (.ref x :: st) M) (hpc : pc + 1 = pc' := by rfl) : J E Y Z k n pc lv (st) M := by
  subst hpc
  intro p l e s m args below meth c A C H locs ls hl hP hD hS
  obtain ⟨hx, hb, hml, hr, hlk, ho, hnm, hts, hK, hA, hX⟩ := id C
  exact lv_aload_n (i := 3) hx hb hdg rfl (hl.2.2 _ (jl_mem hv)) (kk p l e s m args below meth c A C H locs ls hl hP hD hS)
theorem j_aload {E : jD} {Y : jY} {Z : jZ} {k n pc : Nat} {lv : List (Nat × Value)} {st : List Value} {M : va_W} (pc' : Nat) {i : Nat} {x : Nat} (hdg : decode Y.2.1 pc = .ok (.aload i, 2)) (hv : jl lv i = some (.ref x)) (kk : J E Y Z k n pc' lv (.ref x :: st) M) (hpc : pc + 2 = pc' := by rfl) : J E Y Z k n pc lv (st) M := by
  subst hpc
  intro p l e s m args below meth c A C H locs ls hl hP hD hS
  obtain ⟨hx, hb, hml, hr, hlk, ho, hnm, hts, hK, hA, hX⟩ := id C
  exact lv_aload hx hb hdg (hl.2.2 _ (jl_mem hv)) (kk p l e s m args below meth c A C H locs ls hl hP hD hS)
theorem j_istore_0 {E : jD} {Y : jY} {Z : jZ} {k n pc : Nat} {lv : List (Nat × Value)} {st : List Value} {M : va_W} (pc' : Nat) {x : Int32} {lv' : List (Nat × Value)} (hdg : decode Y.2.1 pc = .ok (.istore_n 0, 1)) (hs : js lv 0 (.int x) = lv') (hok : jok lv 0 = true ∧ Nat.blt 0 Y.2.2.1 = true) (kk : J E Y Z k n pc' lv' st M) (hpc : pc + 1 = pc' := by rfl) : J E Y Z k n pc lv (.int x :: st) M := by
  subst hpc
  subst hs
  intro p l e s m args below meth c A C H locs ls hl hP hD hS
  obtain ⟨hx, hb, hml, hr, hlk, ho, hnm, hts, hK, hA, hX⟩ := id C
  exact lv_istore_n (i := 0) hx hb hdg rfl hl (Nat.le_of_ble_eq_true hok.2) rfl (fun ls' hl' => kk p l e s m args below meth c A C H locs ls' (js_has1 hok.1 hl') hP hD hS)
theorem j_istore_1 {E : jD} {Y : jY} {Z : jZ} {k n pc : Nat} {lv : List (Nat × Value)} {st : List Value} {M : va_W} (pc' : Nat) {x : Int32} {lv' : List (Nat × Value)} (hdg : decode Y.2.1 pc = .ok (.istore_n 1, 1)) (hs : js lv 1 (.int x) = lv') (hok : jok lv 1 = true ∧ Nat.blt 1 Y.2.2.1 = true) (kk : J E Y Z k n pc' lv' st M) (hpc : pc + 1 = pc' := by rfl) : J E Y Z k n pc lv (.int x :: st) M := by
  subst hpc
  subst hs
  intro p l e s m args below meth c A C H locs ls hl hP hD hS
  obtain ⟨hx, hb, hml, hr, hlk, ho, hnm, hts, hK, hA, hX⟩ := id C
  exact lv_istore_n (i := 1) hx hb hdg rfl hl (Nat.le_of_ble_eq_true hok.2) rfl (fun ls' hl' => kk p l e s m args below meth c A C H locs ls' (js_has1 hok.1 hl') hP hD hS)
theorem j_istore_2 {E : jD} {Y : jY} {Z : jZ} {k n pc : Nat} {lv : List (Nat × Value)} {st : List Value} {M : va_W} (pc' : Nat) {x : Int32} {lv' : List (Nat × Value)} (hdg : decode Y.2.1 pc = .ok (.istore_n 2, 1)) (hs : js lv 2 (.int x) = lv') (hok : jok lv 2 = true ∧ Nat.blt 2 Y.2.2.1 = true) (kk : J E Y Z k n pc' lv' st M) (hpc : pc + 1 = pc' := by rfl) : J E Y Z k n pc lv (.int x :: st) M := by
  subst hpc
  subst hs
  intro p l e s m args below meth c A C H locs ls hl hP hD hS
  obtain ⟨hx, hb, hml, hr, hlk, ho, hnm, hts, hK, hA, hX⟩ := id C
  exact lv_istore_n (i := 2) hx hb hdg rfl hl (Nat.le_of_ble_eq_true hok.2) rfl (fun ls' hl' => kk p l e s m args below meth c A C H locs ls' (js_has1 hok.1 hl') hP hD hS)
theorem j_istore_3 {E : jD} {Y : jY} {Z : jZ} {k n pc : Nat} {lv : List (Nat × Value)} {st : List Value} {M : va_W} (pc' : Nat) {x : Int32} {lv' : List (Nat × Value)} (hdg : decode Y.2.1 pc = .ok (.istore_n 3, 1)) (hs : js lv 3 (.int x) = lv') (hok : jok lv 3 = true ∧ Nat.blt 3 Y.2.2.1 = true) (kk : J E Y Z k n pc' lv' st M) (hpc : pc + 1 = pc' := by rfl) : J E Y Z k n pc lv (.int x :: st) M := by
  subst hpc
  subst hs
  intro p l e s m args below meth c A C H locs ls hl hP hD hS
  obtain ⟨hx, hb, hml, hr, hlk, ho, hnm, hts, hK, hA, hX⟩ := id C
  exact lv_istore_n (i := 3) hx hb hdg rfl hl (Nat.le_of_ble_eq_true hok.2) rfl (fun ls' hl' => kk p l e s m args below meth c A C H locs ls' (js_has1 hok.1 hl') hP hD hS)
theorem j_istore {E : jD} {Y : jY} {Z : jZ} {k n pc : Nat} {lv : List (Nat × Value)} {st : List Value} {M : va_W} (pc' : Nat) {i : Nat} {x : Int32} {lv' : List (Nat × Value)} (hdg : decode Y.2.1 pc = .ok (.istore i, 2)) (hs : js lv i (.int x) = lv') (hok : jok lv i = true ∧ Nat.blt i Y.2.2.1 = true) (kk : J E Y Z k n pc' lv' st M) (hpc : pc + 2 = pc' := by rfl) : J E Y Z k n pc lv (.int x :: st) M := by
  subst hpc
  subst hs
  intro p l e s m args below meth c A C H locs ls hl hP hD hS
  obtain ⟨hx, hb, hml, hr, hlk, ho, hnm, hts, hK, hA, hX⟩ := id C
  exact lv_istore hx hb hdg hl (Nat.le_of_ble_eq_true hok.2) rfl (fun ls' hl' => kk p l e s m args below meth c A C H locs ls' (js_has1 hok.1 hl') hP hD hS)
theorem j_lstore_0 {E : jD} {Y : jY} {Z : jZ} {k n pc : Nat} {lv : List (Nat × Value)} {st : List Value} {M : va_W} (pc' : Nat) {x : Int64} {lv' : List (Nat × Value)} (hdg : decode Y.2.1 pc = .ok (.lstore_n 0, 1)) (hs : js lv 0 (.long x) = lv') (hok : jok lv 0 = true ∧ Nat.blt (0 + 1) Y.2.2.1 = true ∧ jno lv (0 + 1) = true) (kk : J E Y Z k n pc' lv' st M) (hpc : pc + 1 = pc' := by rfl) : J E Y Z k n pc lv (.long x :: st) M := by
  subst hpc
  subst hs
  intro p l e s m args below meth c A C H locs ls hl hP hD hS
  obtain ⟨hx, hb, hml, hr, hlk, ho, hnm, hts, hK, hA, hX⟩ := id C
  exact lv_lstore_n (i := 0) hx hb hdg rfl hl (Nat.le_of_ble_eq_true hok.2.1) rfl (fun ls' hl' => kk p l e s m args below meth c A C H locs ls' (js_has2 hok.1 hok.2.2 hl') hP hD hS)
theorem j_lstore_1 {E : jD} {Y : jY} {Z : jZ} {k n pc : Nat} {lv : List (Nat × Value)} {st : List Value} {M : va_W} (pc' : Nat) {x : Int64} {lv' : List (Nat × Value)} (hdg : decode Y.2.1 pc = .ok (.lstore_n 1, 1)) (hs : js lv 1 (.long x) = lv') (hok : jok lv 1 = true ∧ Nat.blt (1 + 1) Y.2.2.1 = true ∧ jno lv (1 + 1) = true) (kk : J E Y Z k n pc' lv' st M) (hpc : pc + 1 = pc' := by rfl) : J E Y Z k n pc lv (.long x :: st) M := by
  subst hpc
  subst hs
  intro p l e s m args below meth c A C H locs ls hl hP hD hS
  obtain ⟨hx, hb, hml, hr, hlk, ho, hnm, hts, hK, hA, hX⟩ := id C
  exact lv_lstore_n (i := 1) hx hb hdg rfl hl (Nat.le_of_ble_eq_true hok.2.1) rfl (fun ls' hl' => kk p l e s m args below meth c A C H locs ls' (js_has2 hok.1 hok.2.2 hl') hP hD hS)
theorem j_lstore_2 {E : jD} {Y : jY} {Z : jZ} {k n pc : Nat} {lv : List (Nat × Value)} {st : List Value} {M : va_W} (pc' : Nat) {x : Int64} {lv' : List (Nat × Value)} (hdg : decode Y.2.1 pc = .ok (.lstore_n 2, 1)) (hs : js lv 2 (.long x) = lv') (hok : jok lv 2 = true ∧ Nat.blt (2 + 1) Y.2.2.1 = true ∧ jno lv (2 + 1) = true) (kk : J E Y Z k n pc' lv' st M) (hpc : pc + 1 = pc' := by rfl) : J E Y Z k n pc lv (.long x :: st) M := by
  subst hpc
  subst hs
  intro p l e s m args below meth c A C H locs ls hl hP hD hS
  obtain ⟨hx, hb, hml, hr, hlk, ho, hnm, hts, hK, hA, hX⟩ := id C
  exact lv_lstore_n (i := 2) hx hb hdg rfl hl (Nat.le_of_ble_eq_true hok.2.1) rfl (fun ls' hl' => kk p l e s m args below meth c A C H locs ls' (js_has2 hok.1 hok.2.2 hl') hP hD hS)
theorem j_lstore_3 {E : jD} {Y : jY} {Z : jZ} {k n pc : Nat} {lv : List (Nat × Value)} {st : List Value} {M : va_W} (pc' : Nat) {x : Int64} {lv' : List (Nat × Value)} (hdg : decode Y.2.1 pc = .ok (.lstore_n 3, 1)) (hs : js lv 3 (.long x) = lv') (hok : jok lv 3 = true ∧ Nat.blt (3 + 1) Y.2.2.1 = true ∧ jno lv (3 + 1) = true) (kk : J E Y Z k n pc' lv' st M) (hpc : pc + 1 = pc' := by rfl) : J E Y Z k n pc lv (.long x :: st) M := by
  subst hpc
  subst hs
  intro p l e s m args below meth c A C H locs ls hl hP hD hS
  obtain ⟨hx, hb, hml, hr, hlk, ho, hnm, hts, hK, hA, hX⟩ := id C
  exact lv_lstore_n (i := 3) hx hb hdg rfl hl (Nat.le_of_ble_eq_true hok.2.1) rfl (fun ls' hl' => kk p l e s m args below meth c A C H locs ls' (js_has2 hok.1 hok.2.2 hl') hP hD hS)
theorem j_lstore {E : jD} {Y : jY} {Z : jZ} {k n pc : Nat} {lv : List (Nat × Value)} {st : List Value} {M : va_W} (pc' : Nat) {i : Nat} {x : Int64} {lv' : List (Nat × Value)} (hdg : decode Y.2.1 pc = .ok (.lstore i, 2)) (hs : js lv i (.long x) = lv') (hok : jok lv i = true ∧ Nat.blt (i + 1) Y.2.2.1 = true ∧ jno lv (i + 1) = true) (kk : J E Y Z k n pc' lv' st M) (hpc : pc + 2 = pc' := by rfl) : J E Y Z k n pc lv (.long x :: st) M := by
  subst hpc
  subst hs
  intro p l e s m args below meth c A C H locs ls hl hP hD hS
  obtain ⟨hx, hb, hml, hr, hlk, ho, hnm, hts, hK, hA, hX⟩ := id C
  exact lv_lstore hx hb hdg hl (Nat.le_of_ble_eq_true hok.2.1) rfl (fun ls' hl' => kk p l e s m args below meth c A C H locs ls' (js_has2 hok.1 hok.2.2 hl') hP hD hS)
theorem j_astore_0 {E : jD} {Y : jY} {Z : jZ} {k n pc : Nat} {lv : List (Nat × Value)} {st : List Value} {M : va_W} (pc' : Nat) {x : Nat} {lv' : List (Nat × Value)} (hdg : decode Y.2.1 pc = .ok (.astore_n 0, 1)) (hs : js lv 0 (.ref x) = lv') (hok : jok lv 0 = true ∧ Nat.blt 0 Y.2.2.1 = true) (kk : J E Y Z k n pc' lv' st M) (hpc : pc + 1 = pc' := by rfl) : J E Y Z k n pc lv (.ref x :: st) M := by
  subst hpc
  subst hs
  intro p l e s m args below meth c A C H locs ls hl hP hD hS
  obtain ⟨hx, hb, hml, hr, hlk, ho, hnm, hts, hK, hA, hX⟩ := id C
  exact lv_astore_n (i := 0) hx hb hdg rfl hl (Nat.le_of_ble_eq_true hok.2) rfl (fun ls' hl' => kk p l e s m args below meth c A C H locs ls' (js_has1 hok.1 hl') hP hD hS)
theorem j_astore_1 {E : jD} {Y : jY} {Z : jZ} {k n pc : Nat} {lv : List (Nat × Value)} {st : List Value} {M : va_W} (pc' : Nat) {x : Nat} {lv' : List (Nat × Value)} (hdg : decode Y.2.1 pc = .ok (.astore_n 1, 1)) (hs : js lv 1 (.ref x) = lv') (hok : jok lv 1 = true ∧ Nat.blt 1 Y.2.2.1 = true) (kk : J E Y Z k n pc' lv' st M) (hpc : pc + 1 = pc' := by rfl) : J E Y Z k n pc lv (.ref x :: st) M := by
  subst hpc
  subst hs
  intro p l e s m args below meth c A C H locs ls hl hP hD hS
  obtain ⟨hx, hb, hml, hr, hlk, ho, hnm, hts, hK, hA, hX⟩ := id C
  exact lv_astore_n (i := 1) hx hb hdg rfl hl (Nat.le_of_ble_eq_true hok.2) rfl (fun ls' hl' => kk p l e s m args below meth c A C H locs ls' (js_has1 hok.1 hl') hP hD hS)
theorem j_astore_2 {E : jD} {Y : jY} {Z : jZ} {k n pc : Nat} {lv : List (Nat × Value)} {st : List Value} {M : va_W} (pc' : Nat) {x : Nat} {lv' : List (Nat × Value)} (hdg : decode Y.2.1 pc = .ok (.astore_n 2, 1)) (hs : js lv 2 (.ref x) = lv') (hok : jok lv 2 = true ∧ Nat.blt 2 Y.2.2.1 = true) (kk : J E Y Z k n pc' lv' st M) (hpc : pc + 1 = pc' := by rfl) : J E Y Z k n pc lv (.ref x :: st) M := by
  subst hpc
  subst hs
  intro p l e s m args below meth c A C H locs ls hl hP hD hS
  obtain ⟨hx, hb, hml, hr, hlk, ho, hnm, hts, hK, hA, hX⟩ := id C
  exact lv_astore_n (i := 2) hx hb hdg rfl hl (Nat.le_of_ble_eq_true hok.2) rfl (fun ls' hl' => kk p l e s m args below meth c A C H locs ls' (js_has1 hok.1 hl') hP hD hS)
theorem j_astore_3 {E : jD} {Y : jY} {Z : jZ} {k n pc : Nat} {lv : List (Nat × Value)} {st : List Value} {M : va_W} (pc' : Nat) {x : Nat} {lv' : List (Nat × Value)} (hdg : decode Y.2.1 pc = .ok (.astore_n 3, 1)) (hs : js lv 3 (.ref x) = lv') (hok : jok lv 3 = true ∧ Nat.blt 3 Y.2.2.1 = true) (kk : J E Y Z k n pc' lv' st M) (hpc : pc + 1 = pc' := by rfl) : J E Y Z k n pc lv (.ref x :: st) M := by
  subst hpc
  subst hs
  intro p l e s m args below meth c A C H locs ls hl hP hD hS
  obtain ⟨hx, hb, hml, hr, hlk, ho, hnm, hts, hK, hA, hX⟩ := id C
  exact lv_astore_n (i := 3) hx hb hdg rfl hl (Nat.le_of_ble_eq_true hok.2) rfl (fun ls' hl' => kk p l e s m args below meth c A C H locs ls' (js_has1 hok.1 hl') hP hD hS)
theorem j_astore {E : jD} {Y : jY} {Z : jZ} {k n pc : Nat} {lv : List (Nat × Value)} {st : List Value} {M : va_W} (pc' : Nat) {i : Nat} {x : Nat} {lv' : List (Nat × Value)} (hdg : decode Y.2.1 pc = .ok (.astore i, 2)) (hs : js lv i (.ref x) = lv') (hok : jok lv i = true ∧ Nat.blt i Y.2.2.1 = true) (kk : J E Y Z k n pc' lv' st M) (hpc : pc + 2 = pc' := by rfl) : J E Y Z k n pc lv (.ref x :: st) M := by
  subst hpc
  subst hs
  intro p l e s m args below meth c A C H locs ls hl hP hD hS
  obtain ⟨hx, hb, hml, hr, hlk, ho, hnm, hts, hK, hA, hX⟩ := id C
  exact lv_astore hx hb hdg hl (Nat.le_of_ble_eq_true hok.2) rfl (fun ls' hl' => kk p l e s m args below meth c A C H locs ls' (js_has1 hok.1 hl') hP hD hS)
theorem j_iinc {E : jD} {Y : jY} {Z : jZ} {k n pc : Nat} {lv : List (Nat × Value)} {st : List Value} {M : va_W} (pc' : Nat) {i : Nat} {z a : Int} {lv' : List (Nat × Value)} (hdg : decode Y.2.1 pc = .ok (.iinc i z, 3)) (hv : jl lv i = some (.int (iI a))) (hs : js lv i (.int (iI (a + z))) = lv') (hok : jok lv i = true ∧ Nat.blt i Y.2.2.1 = true) (kk : J E Y Z k n pc' lv' st M) (hpc : pc + 3 = pc' := by rfl) : J E Y Z k n pc lv st M := by
  subst hpc
  subst hs
  intro p l e s m args below meth c A C H locs ls hl hP hD hS
  obtain ⟨hx, hb, hml, hr, hlk, ho, hnm, hts, hK, hA, hX⟩ := id C
  obtain ⟨q, hq⟩ := List.getElem?_of_mem (jl_mem hv)
  exact lv_iinc hx hb hdg hl hq (iI_add a z) (Nat.le_of_ble_eq_true hok.2) rfl (fun ls' hl' => kk p l e s m args below meth c A C H locs ls' (js_has1 hok.1 hl') hP hD hS)
theorem j_iadd {E : jD} {Y : jY} {Z : jZ} {k n pc : Nat} {lv : List (Nat × Value)} {st : List Value} {M : va_W} (pc' : Nat) {a b : Int} (hdg : decode Y.2.1 pc = .ok (.iadd, 1)) (kk : J E Y Z k n pc' lv (.int (iI (a + b)) :: st) M) (hpc : pc + 1 = pc' := by rfl) : J E Y Z k n pc lv (.int (iI b) :: .int (iI a) :: st) M := by
  subst hpc
  intro p l e s m args below meth c A C H locs ls hl hP hD hS
  obtain ⟨hx, hb, hml, hr, hlk, ho, hnm, hts, hK, hA, hX⟩ := id C
  exact lv_iadd hx hb hdg (by rw [iI_add]; exact (kk p l e s m args below meth c A C H locs ls hl hP hD hS))
theorem j_iaddx {E : jD} {Y : jY} {Z : jZ} {k n pc : Nat} {lv : List (Nat × Value)} {st : List Value} {M : va_W} (pc' : Nat) {x y : Int32} (hdg : decode Y.2.1 pc = .ok (.iadd, 1)) (kk : J E Y Z k n pc' lv (.int (x + y) :: st) M) (hpc : pc + 1 = pc' := by rfl) : J E Y Z k n pc lv (.int y :: .int x :: st) M := by
  subst hpc
  intro p l e s m args below meth c A C H locs ls hl hP hD hS
  obtain ⟨hx, hb, hml, hr, hlk, ho, hnm, hts, hK, hA, hX⟩ := id C
  exact lv_iadd hx hb hdg (kk p l e s m args below meth c A C H locs ls hl hP hD hS)
theorem j_isub {E : jD} {Y : jY} {Z : jZ} {k n pc : Nat} {lv : List (Nat × Value)} {st : List Value} {M : va_W} (pc' : Nat) {a b : Int} (hdg : decode Y.2.1 pc = .ok (.isub, 1)) (kk : J E Y Z k n pc' lv (.int (iI (a - b)) :: st) M) (hpc : pc + 1 = pc' := by rfl) : J E Y Z k n pc lv (.int (iI b) :: .int (iI a) :: st) M := by
  subst hpc
  intro p l e s m args below meth c A C H locs ls hl hP hD hS
  obtain ⟨hx, hb, hml, hr, hlk, ho, hnm, hts, hK, hA, hX⟩ := id C
  exact lv_isub hx hb hdg (by rw [iI_sub]; exact (kk p l e s m args below meth c A C H locs ls hl hP hD hS))
theorem j_isubx {E : jD} {Y : jY} {Z : jZ} {k n pc : Nat} {lv : List (Nat × Value)} {st : List Value} {M : va_W} (pc' : Nat) {x y : Int32} (hdg : decode Y.2.1 pc = .ok (.isub, 1)) (kk : J E Y Z k n pc' lv (.int (x - y) :: st) M) (hpc : pc + 1 = pc' := by rfl) : J E Y Z k n pc lv (.int y :: .int x :: st) M := by
  subst hpc
  intro p l e s m args below meth c A C H locs ls hl hP hD hS
  obtain ⟨hx, hb, hml, hr, hlk, ho, hnm, hts, hK, hA, hX⟩ := id C
  exact lv_isub hx hb hdg (kk p l e s m args below meth c A C H locs ls hl hP hD hS)
theorem j_imul {E : jD} {Y : jY} {Z : jZ} {k n pc : Nat} {lv : List (Nat × Value)} {st : List Value} {M : va_W} (pc' : Nat) {a b : Int} (hdg : decode Y.2.1 pc = .ok (.imul, 1)) (kk : J E Y Z k n pc' lv (.int (iI (a * b)) :: st) M) (hpc : pc + 1 = pc' := by rfl) : J E Y Z k n pc lv (.int (iI b) :: .int (iI a) :: st) M := by
  subst hpc
  intro p l e s m args below meth c A C H locs ls hl hP hD hS
  obtain ⟨hx, hb, hml, hr, hlk, ho, hnm, hts, hK, hA, hX⟩ := id C
  exact lv_imul hx hb hdg (by rw [iI_mul]; exact (kk p l e s m args below meth c A C H locs ls hl hP hD hS))
theorem j_imulx {E : jD} {Y : jY} {Z : jZ} {k n pc : Nat} {lv : List (Nat × Value)} {st : List Value} {M : va_W} (pc' : Nat) {x y : Int32} (hdg : decode Y.2.1 pc = .ok (.imul, 1)) (kk : J E Y Z k n pc' lv (.int (x * y) :: st) M) (hpc : pc + 1 = pc' := by rfl) : J E Y Z k n pc lv (.int y :: .int x :: st) M := by
  subst hpc
  intro p l e s m args below meth c A C H locs ls hl hP hD hS
  obtain ⟨hx, hb, hml, hr, hlk, ho, hnm, hts, hK, hA, hX⟩ := id C
  exact lv_imul hx hb hdg (kk p l e s m args below meth c A C H locs ls hl hP hD hS)
theorem j_ladd {E : jD} {Y : jY} {Z : jZ} {k n pc : Nat} {lv : List (Nat × Value)} {st : List Value} {M : va_W} (pc' : Nat) {x y : Int64} (hdg : decode Y.2.1 pc = .ok (.ladd, 1)) (kk : J E Y Z k n pc' lv (.long (x + y) :: st) M) (hpc : pc + 1 = pc' := by rfl) : J E Y Z k n pc lv (.long y :: .long x :: st) M := by
  subst hpc
  intro p l e s m args below meth c A C H locs ls hl hP hD hS
  obtain ⟨hx, hb, hml, hr, hlk, ho, hnm, hts, hK, hA, hX⟩ := id C
  exact lv_ladd hx hb hdg (kk p l e s m args below meth c A C H locs ls hl hP hD hS)
theorem j_lsub {E : jD} {Y : jY} {Z : jZ} {k n pc : Nat} {lv : List (Nat × Value)} {st : List Value} {M : va_W} (pc' : Nat) {x y : Int64} (hdg : decode Y.2.1 pc = .ok (.lsub, 1)) (kk : J E Y Z k n pc' lv (.long (x - y) :: st) M) (hpc : pc + 1 = pc' := by rfl) : J E Y Z k n pc lv (.long y :: .long x :: st) M := by
  subst hpc
  intro p l e s m args below meth c A C H locs ls hl hP hD hS
  obtain ⟨hx, hb, hml, hr, hlk, ho, hnm, hts, hK, hA, hX⟩ := id C
  exact lv_lsub hx hb hdg (kk p l e s m args below meth c A C H locs ls hl hP hD hS)
theorem j_lmul {E : jD} {Y : jY} {Z : jZ} {k n pc : Nat} {lv : List (Nat × Value)} {st : List Value} {M : va_W} (pc' : Nat) {x y : Int64} (hdg : decode Y.2.1 pc = .ok (.lmul, 1)) (kk : J E Y Z k n pc' lv (.long (x * y) :: st) M) (hpc : pc + 1 = pc' := by rfl) : J E Y Z k n pc lv (.long y :: .long x :: st) M := by
  subst hpc
  intro p l e s m args below meth c A C H locs ls hl hP hD hS
  obtain ⟨hx, hb, hml, hr, hlk, ho, hnm, hts, hK, hA, hX⟩ := id C
  exact lv_lmul hx hb hdg (kk p l e s m args below meth c A C H locs ls hl hP hD hS)
theorem j_land {E : jD} {Y : jY} {Z : jZ} {k n pc : Nat} {lv : List (Nat × Value)} {st : List Value} {M : va_W} (pc' : Nat) {x y : Int64} (hdg : decode Y.2.1 pc = .ok (.land, 1)) (kk : J E Y Z k n pc' lv (.long (x &&& y) :: st) M) (hpc : pc + 1 = pc' := by rfl) : J E Y Z k n pc lv (.long y :: .long x :: st) M := by
  subst hpc
  intro p l e s m args below meth c A C H locs ls hl hP hD hS
  obtain ⟨hx, hb, hml, hr, hlk, ho, hnm, hts, hK, hA, hX⟩ := id C
  exact lv_land hx hb hdg (kk p l e s m args below meth c A C H locs ls hl hP hD hS)
theorem j_lor {E : jD} {Y : jY} {Z : jZ} {k n pc : Nat} {lv : List (Nat × Value)} {st : List Value} {M : va_W} (pc' : Nat) {x y : Int64} (hdg : decode Y.2.1 pc = .ok (.lor, 1)) (kk : J E Y Z k n pc' lv (.long (x ||| y) :: st) M) (hpc : pc + 1 = pc' := by rfl) : J E Y Z k n pc lv (.long y :: .long x :: st) M := by
  subst hpc
  intro p l e s m args below meth c A C H locs ls hl hP hD hS
  obtain ⟨hx, hb, hml, hr, hlk, ho, hnm, hts, hK, hA, hX⟩ := id C
  exact lv_lor hx hb hdg (kk p l e s m args below meth c A C H locs ls hl hP hD hS)
theorem j_iand {E : jD} {Y : jY} {Z : jZ} {k n pc : Nat} {lv : List (Nat × Value)} {st : List Value} {M : va_W} (pc' : Nat) {x y : Int32} (hdg : decode Y.2.1 pc = .ok (.iand, 1)) (kk : J E Y Z k n pc' lv (.int (x &&& y) :: st) M) (hpc : pc + 1 = pc' := by rfl) : J E Y Z k n pc lv (.int y :: .int x :: st) M := by
  subst hpc
  intro p l e s m args below meth c A C H locs ls hl hP hD hS
  obtain ⟨hx, hb, hml, hr, hlk, ho, hnm, hts, hK, hA, hX⟩ := id C
  exact lv_iand hx hb hdg (kk p l e s m args below meth c A C H locs ls hl hP hD hS)
theorem j_ior {E : jD} {Y : jY} {Z : jZ} {k n pc : Nat} {lv : List (Nat × Value)} {st : List Value} {M : va_W} (pc' : Nat) {x y : Int32} (hdg : decode Y.2.1 pc = .ok (.ior, 1)) (kk : J E Y Z k n pc' lv (.int (x ||| y) :: st) M) (hpc : pc + 1 = pc' := by rfl) : J E Y Z k n pc lv (.int y :: .int x :: st) M := by
  subst hpc
  intro p l e s m args below meth c A C H locs ls hl hP hD hS
  obtain ⟨hx, hb, hml, hr, hlk, ho, hnm, hts, hK, hA, hX⟩ := id C
  exact lv_ior hx hb hdg (kk p l e s m args below meth c A C H locs ls hl hP hD hS)
theorem j_ishl {E : jD} {Y : jY} {Z : jZ} {k n pc : Nat} {lv : List (Nat × Value)} {st : List Value} {M : va_W} (pc' : Nat) {x y : Int32} (hdg : decode Y.2.1 pc = .ok (.ishl, 1)) (kk : J E Y Z k n pc' lv (.int (x <<< (y &&& 31)) :: st) M) (hpc : pc + 1 = pc' := by rfl) : J E Y Z k n pc lv (.int y :: .int x :: st) M := by
  subst hpc
  intro p l e s m args below meth c A C H locs ls hl hP hD hS
  obtain ⟨hx, hb, hml, hr, hlk, ho, hnm, hts, hK, hA, hX⟩ := id C
  exact lv_ishl hx hb hdg (kk p l e s m args below meth c A C H locs ls hl hP hD hS)
theorem j_ishr {E : jD} {Y : jY} {Z : jZ} {k n pc : Nat} {lv : List (Nat × Value)} {st : List Value} {M : va_W} (pc' : Nat) {x y : Int32} (hdg : decode Y.2.1 pc = .ok (.ishr, 1)) (kk : J E Y Z k n pc' lv (.int (x >>> (y &&& 31)) :: st) M) (hpc : pc + 1 = pc' := by rfl) : J E Y Z k n pc lv (.int y :: .int x :: st) M := by
  subst hpc
  intro p l e s m args below meth c A C H locs ls hl hP hD hS
  obtain ⟨hx, hb, hml, hr, hlk, ho, hnm, hts, hK, hA, hX⟩ := id C
  exact lv_ishr hx hb hdg (kk p l e s m args below meth c A C H locs ls hl hP hD hS)
theorem j_iushr {E : jD} {Y : jY} {Z : jZ} {k n pc : Nat} {lv : List (Nat × Value)} {st : List Value} {M : va_W} (pc' : Nat) {x y : Int32} (hdg : decode Y.2.1 pc = .ok (.iushr, 1)) (kk : J E Y Z k n pc' lv (.int ((x.toUInt32 >>> (y.toUInt32 &&& Int32.toUInt32 31)).toInt32) :: st) M) (hpc : pc + 1 = pc' := by rfl) : J E Y Z k n pc lv (.int y :: .int x :: st) M := by
  subst hpc
  intro p l e s m args below meth c A C H locs ls hl hP hD hS
  obtain ⟨hx, hb, hml, hr, hlk, ho, hnm, hts, hK, hA, hX⟩ := id C
  exact lv_iushr hx hb hdg rfl (kk p l e s m args below meth c A C H locs ls hl hP hD hS)
theorem j_lushr {E : jD} {Y : jY} {Z : jZ} {k n pc : Nat} {lv : List (Nat × Value)} {st : List Value} {M : va_W} (pc' : Nat) {x : Int64} {y : Int32} (hdg : decode Y.2.1 pc = .ok (.lushr, 1)) (kk : J E Y Z k n pc' lv (.long ((x.toUInt64 >>> (y.toInt64.toUInt64 &&& Int64.toUInt64 63)).toInt64) :: st) M) (hpc : pc + 1 = pc' := by rfl) : J E Y Z k n pc lv (.int y :: .long x :: st) M := by
  subst hpc
  intro p l e s m args below meth c A C H locs ls hl hP hD hS
  obtain ⟨hx, hb, hml, hr, hlk, ho, hnm, hts, hK, hA, hX⟩ := id C
  exact lv_lushr hx hb hdg rfl (kk p l e s m args below meth c A C H locs ls hl hP hD hS)
theorem j_lshl {E : jD} {Y : jY} {Z : jZ} {k n pc : Nat} {lv : List (Nat × Value)} {st : List Value} {M : va_W} (pc' : Nat) {x : Int64} {y : Int32} (hdg : decode Y.2.1 pc = .ok (.lshl, 1)) (kk : J E Y Z k n pc' lv (.long (x <<< (y.toInt64 &&& 63)) :: st) M) (hpc : pc + 1 = pc' := by rfl) : J E Y Z k n pc lv (.int y :: .long x :: st) M := by
  subst hpc
  intro p l e s m args below meth c A C H locs ls hl hP hD hS
  obtain ⟨hx, hb, hml, hr, hlk, ho, hnm, hts, hK, hA, hX⟩ := id C
  exact lv_lshl hx hb hdg rfl (kk p l e s m args below meth c A C H locs ls hl hP hD hS)
theorem j_i2l {E : jD} {Y : jY} {Z : jZ} {k n pc : Nat} {lv : List (Nat × Value)} {st : List Value} {M : va_W} (pc' : Nat) {x : Int32} (hdg : decode Y.2.1 pc = .ok (.i2l, 1)) (kk : J E Y Z k n pc' lv (.long x.toInt64 :: st) M) (hpc : pc + 1 = pc' := by rfl) : J E Y Z k n pc lv (.int x :: st) M := by
  subst hpc
  intro p l e s m args below meth c A C H locs ls hl hP hD hS
  obtain ⟨hx, hb, hml, hr, hlk, ho, hnm, hts, hK, hA, hX⟩ := id C
  exact lv_i2l hx hb hdg rfl (kk p l e s m args below meth c A C H locs ls hl hP hD hS)
theorem j_lcmp {E : jD} {Y : jY} {Z : jZ} {k n pc : Nat} {lv : List (Nat × Value)} {st : List Value} {M : va_W} (pc' : Nat) {x y : Int64} (hdg : decode Y.2.1 pc = .ok (.lcmp, 1)) (kk : J E Y Z k n pc' lv (.int (lg_cmp x y) :: st) M) (hpc : pc + 1 = pc' := by rfl) : J E Y Z k n pc lv (.long y :: .long x :: st) M := by
  subst hpc
  intro p l e s m args below meth c A C H locs ls hl hP hD hS
  obtain ⟨hx, hb, hml, hr, hlk, ho, hnm, hts, hK, hA, hX⟩ := id C
  exact W.lcmp hx hb hdg (kk p l e s m args below meth c A C H locs ls hl hP hD hS)
theorem iI_div {a b : Int} (ha : 0 ≤ a) (hb : 0 < b) (ra : jr a) (rb : jr b) : iI a / iI b = iI (a / b) := by
  apply Int32.toInt_inj.mp
  have h1 : a / b ≤ a := Int.ediv_le_self b ha
  have h2 : 0 ≤ a / b := Int.ediv_nonneg ha (by omega)
  rw [lg_idiv_nonneg (by rw [iI_t ra]; exact ha) (by rw [iI_t rb]; exact hb), iI_t ra, iI_t rb, iI_t ⟨by omega, by have := ra.2; omega⟩]
theorem iI_rem {a b : Int} (ha : 0 ≤ a) (hb : 0 < b) (ra : jr a) (rb : jr b) : iI a - iI a / iI b * iI b = iI (a % b) := by
  rw [iI_div ha hb ra rb, iI_mul, iI_sub, Int.emod_def, Int.mul_comm (a / b) b]
theorem iI_ne0 {b : Int} (hb : 0 < b) (rb : jr b) : ¬ iI b = 0 := by
  rw [← iI_0, iI_eq rb jr_0]; omega
theorem j_idiv {E : jD} {Y : jY} {Z : jZ} {k n pc : Nat} {lv : List (Nat × Value)} {st : List Value} {M : va_W} (pc' : Nat) {a b : Int} (hdg : decode Y.2.1 pc = .ok (.idiv, 1)) (ha : 0 ≤ a) (hb0 : 0 < b) (ra : jr a) (rb : jr b) (kk : J E Y Z k n pc' lv (.int (iI (a / b)) :: st) M) (hpc : pc + 1 = pc' := by rfl) : J E Y Z k n pc lv (.int (iI b) :: .int (iI a) :: st) M := by
  subst hpc
  intro p l e s m args below meth c A C H locs ls hl hP hD hS
  obtain ⟨hx, hb, hml, hr, hlk, ho, hnm, hts, hK, hA, hX⟩ := id C
  exact lv_idiv hx hb hdg (iI_ne0 hb0 rb) (by rw [iI_div ha hb0 ra rb]; exact (kk p l e s m args below meth c A C H locs ls hl hP hD hS))
theorem j_irem {E : jD} {Y : jY} {Z : jZ} {k n pc : Nat} {lv : List (Nat × Value)} {st : List Value} {M : va_W} (pc' : Nat) {a b : Int} (hdg : decode Y.2.1 pc = .ok (.irem, 1)) (ha : 0 ≤ a) (hb0 : 0 < b) (ra : jr a) (rb : jr b) (kk : J E Y Z k n pc' lv (.int (iI (a % b)) :: st) M) (hpc : pc + 1 = pc' := by rfl) : J E Y Z k n pc lv (.int (iI b) :: .int (iI a) :: st) M := by
  subst hpc
  intro p l e s m args below meth c A C H locs ls hl hP hD hS
  obtain ⟨hx, hb, hml, hr, hlk, ho, hnm, hts, hK, hA, hX⟩ := id C
  exact lv_irem hx hb hdg (iI_ne0 hb0 rb) (by rw [iI_rem ha hb0 ra rb]; exact (kk p l e s m args below meth c A C H locs ls hl hP hD hS))
theorem j_dup {E : jD} {Y : jY} {Z : jZ} {k n pc : Nat} {lv : List (Nat × Value)} {st : List Value} {M : va_W} (pc' : Nat) {va : Value} (hdg : decode Y.2.1 pc = .ok (.dup, 1)) (h1 : va.category = 1) (kk : J E Y Z k n pc' lv (va :: va :: st) M) (hpc : pc + 1 = pc' := by rfl) : J E Y Z k n pc lv (va :: st) M := by
  subst hpc
  intro p l e s m args below meth c A C H locs ls hl hP hD hS
  obtain ⟨hx, hb, hml, hr, hlk, ho, hnm, hts, hK, hA, hX⟩ := id C
  exact lv_dup hx hb hdg h1 (kk p l e s m args below meth c A C H locs ls hl hP hD hS)
theorem j_pop {E : jD} {Y : jY} {Z : jZ} {k n pc : Nat} {lv : List (Nat × Value)} {st : List Value} {M : va_W} (pc' : Nat) {va : Value} (hdg : decode Y.2.1 pc = .ok (.pop, 1)) (h1 : va.category = 1) (kk : J E Y Z k n pc' lv (st) M) (hpc : pc + 1 = pc' := by rfl) : J E Y Z k n pc lv (va :: st) M := by
  subst hpc
  intro p l e s m args below meth c A C H locs ls hl hP hD hS
  obtain ⟨hx, hb, hml, hr, hlk, ho, hnm, hts, hK, hA, hX⟩ := id C
  exact lv_pop hx hb hdg h1 (kk p l e s m args below meth c A C H locs ls hl hP hD hS)
theorem j_dup2 {E : jD} {Y : jY} {Z : jZ} {k n pc : Nat} {lv : List (Nat × Value)} {st : List Value} {M : va_W} (pc' : Nat) {va vb : Value} (hdg : decode Y.2.1 pc = .ok (.dup2, 1)) (h1 : va.category = 1) (h2 : vb.category = 1) (kk : J E Y Z k n pc' lv (va :: vb :: va :: vb :: st) M) (hpc : pc + 1 = pc' := by rfl) : J E Y Z k n pc lv (va :: vb :: st) M := by
  subst hpc
  intro p l e s m args below meth c A C H locs ls hl hP hD hS
  obtain ⟨hx, hb, hml, hr, hlk, ho, hnm, hts, hK, hA, hX⟩ := id C
  exact lv_dup2_11 hx hb hdg h1 h2 (kk p l e s m args below meth c A C H locs ls hl hP hD hS)
theorem j_icmp_eq {E : jD} {Y : jY} {Z : jZ} {k n pc : Nat} {lv : List (Nat × Value)} {st : List Value} {M : va_W} (tgt pc' : Nat) {a b off : Int} (hdg : decode Y.2.1 pc = .ok (.if_icmp .eq off, 3)) (ha : jr a) (hb0 : jr b) (kt : a = b → J E Y Z k n tgt lv st M) (kf : ¬ (a = b) → J E Y Z k n pc' lv st M) (ht : (pc : Int) + off = (tgt : Int) := by decide) (hpc : pc + 3 = pc' := by rfl) : J E Y Z k n pc lv (.int (iI b) :: .int (iI a) :: st) M := by
  subst hpc
  intro p l e s m args below meth c A C H locs ls hl hP hD hS
  obtain ⟨hx, hb, hml, hr, hlk, ho, hnm, hts, hK, hA, hX⟩ := id C
  refine lv_icmp_eq hx hb hdg ht (fun h => ?_) (fun h => ?_)
  · exact kt ((iI_eq ha hb0).mp (by first | exact h | simpa using h)) p l e s m args below meth c A C H locs ls hl hP hD hS
  · exact kf (fun h2 => h ((iI_eq ha hb0).mpr h2)) p l e s m args below meth c A C H locs ls hl hP hD hS
theorem j_if_eq {E : jD} {Y : jY} {Z : jZ} {k n pc : Nat} {lv : List (Nat × Value)} {st : List Value} {M : va_W} (tgt pc' : Nat) {a off : Int} (hdg : decode Y.2.1 pc = .ok (.ifCond .eq off, 3)) (ha : jr a) (kt : a = 0 → J E Y Z k n tgt lv st M) (kf : ¬ (a = 0) → J E Y Z k n pc' lv st M) (ht : (pc : Int) + off = (tgt : Int) := by decide) (hpc : pc + 3 = pc' := by rfl) : J E Y Z k n pc lv (.int (iI a) :: st) M := by
  subst hpc
  intro p l e s m args below meth c A C H locs ls hl hP hD hS
  obtain ⟨hx, hb, hml, hr, hlk, ho, hnm, hts, hK, hA, hX⟩ := id C
  refine lv_if_eq hx hb hdg ht (fun h => ?_) (fun h => ?_)
  · rw [← iI_0] at h
    exact kt ((iI_eq ha jr_0).mp (by first | exact h | simpa using h)) p l e s m args below meth c A C H locs ls hl hP hD hS
  · rw [← iI_0] at h
    exact kf (fun h2 => h ((iI_eq ha jr_0).mpr h2)) p l e s m args below meth c A C H locs ls hl hP hD hS
theorem j_icmp_ne {E : jD} {Y : jY} {Z : jZ} {k n pc : Nat} {lv : List (Nat × Value)} {st : List Value} {M : va_W} (tgt pc' : Nat) {a b off : Int} (hdg : decode Y.2.1 pc = .ok (.if_icmp .ne off, 3)) (ha : jr a) (hb0 : jr b) (kt : ¬ a = b → J E Y Z k n tgt lv st M) (kf : a = b → J E Y Z k n pc' lv st M) (ht : (pc : Int) + off = (tgt : Int) := by decide) (hpc : pc + 3 = pc' := by rfl) : J E Y Z k n pc lv (.int (iI b) :: .int (iI a) :: st) M := by
  subst hpc
  intro p l e s m args below meth c A C H locs ls hl hP hD hS
  obtain ⟨hx, hb, hml, hr, hlk, ho, hnm, hts, hK, hA, hX⟩ := id C
  refine lv_icmp_ne hx hb hdg ht (fun h => ?_) (fun h => ?_)
  · exact kt (((not_congr (iI_eq ha hb0))).mp (by first | exact h | simpa using h)) p l e s m args below meth c A C H locs ls hl hP hD hS
  · exact kf ((iI_eq ha hb0).mp h) p l e s m args below meth c A C H locs ls hl hP hD hS
theorem j_if_ne {E : jD} {Y : jY} {Z : jZ} {k n pc : Nat} {lv : List (Nat × Value)} {st : List Value} {M : va_W} (tgt pc' : Nat) {a off : Int} (hdg : decode Y.2.1 pc = .ok (.ifCond .ne off, 3)) (ha : jr a) (kt : ¬ a = 0 → J E Y Z k n tgt lv st M) (kf : a = 0 → J E Y Z k n pc' lv st M) (ht : (pc : Int) + off = (tgt : Int) := by decide) (hpc : pc + 3 = pc' := by rfl) : J E Y Z k n pc lv (.int (iI a) :: st) M := by
  subst hpc
  intro p l e s m args below meth c A C H locs ls hl hP hD hS
  obtain ⟨hx, hb, hml, hr, hlk, ho, hnm, hts, hK, hA, hX⟩ := id C
  refine lv_if_ne hx hb hdg ht (fun h => ?_) (fun h => ?_)
  · rw [← iI_0] at h
    exact kt (((not_congr (iI_eq ha jr_0))).mp (by first | exact h | simpa using h)) p l e s m args below meth c A C H locs ls hl hP hD hS
  · rw [← iI_0] at h
    exact kf ((iI_eq ha jr_0).mp h) p l e s m args below meth c A C H locs ls hl hP hD hS
theorem j_icmp_lt {E : jD} {Y : jY} {Z : jZ} {k n pc : Nat} {lv : List (Nat × Value)} {st : List Value} {M : va_W} (tgt pc' : Nat) {a b off : Int} (hdg : decode Y.2.1 pc = .ok (.if_icmp .lt off, 3)) (ha : jr a) (hb0 : jr b) (kt : a < b → J E Y Z k n tgt lv st M) (kf : ¬ (a < b) → J E Y Z k n pc' lv st M) (ht : (pc : Int) + off = (tgt : Int) := by decide) (hpc : pc + 3 = pc' := by rfl) : J E Y Z k n pc lv (.int (iI b) :: .int (iI a) :: st) M := by
  subst hpc
  intro p l e s m args below meth c A C H locs ls hl hP hD hS
  obtain ⟨hx, hb, hml, hr, hlk, ho, hnm, hts, hK, hA, hX⟩ := id C
  refine lv_icmp_lt hx hb hdg ht (fun h => ?_) (fun h => ?_)
  · exact kt ((iI_lt ha hb0).mp (by first | exact h | simpa using h)) p l e s m args below meth c A C H locs ls hl hP hD hS
  · exact kf (fun h2 => h ((iI_lt ha hb0).mpr h2)) p l e s m args below meth c A C H locs ls hl hP hD hS
theorem j_if_lt {E : jD} {Y : jY} {Z : jZ} {k n pc : Nat} {lv : List (Nat × Value)} {st : List Value} {M : va_W} (tgt pc' : Nat) {a off : Int} (hdg : decode Y.2.1 pc = .ok (.ifCond .lt off, 3)) (ha : jr a) (kt : a < 0 → J E Y Z k n tgt lv st M) (kf : ¬ (a < 0) → J E Y Z k n pc' lv st M) (ht : (pc : Int) + off = (tgt : Int) := by decide) (hpc : pc + 3 = pc' := by rfl) : J E Y Z k n pc lv (.int (iI a) :: st) M := by
  subst hpc
  intro p l e s m args below meth c A C H locs ls hl hP hD hS
  obtain ⟨hx, hb, hml, hr, hlk, ho, hnm, hts, hK, hA, hX⟩ := id C
  refine lv_if_lt hx hb hdg ht (fun h => ?_) (fun h => ?_)
  · rw [← iI_0] at h
    exact kt ((iI_lt ha jr_0).mp (by first | exact h | simpa using h)) p l e s m args below meth c A C H locs ls hl hP hD hS
  · rw [← iI_0] at h
    exact kf (fun h2 => h ((iI_lt ha jr_0).mpr h2)) p l e s m args below meth c A C H locs ls hl hP hD hS
theorem j_icmp_ge {E : jD} {Y : jY} {Z : jZ} {k n pc : Nat} {lv : List (Nat × Value)} {st : List Value} {M : va_W} (tgt pc' : Nat) {a b off : Int} (hdg : decode Y.2.1 pc = .ok (.if_icmp .ge off, 3)) (ha : jr a) (hb0 : jr b) (kt : b ≤ a → J E Y Z k n tgt lv st M) (kf : ¬ (b ≤ a) → J E Y Z k n pc' lv st M) (ht : (pc : Int) + off = (tgt : Int) := by decide) (hpc : pc + 3 = pc' := by rfl) : J E Y Z k n pc lv (.int (iI b) :: .int (iI a) :: st) M := by
  subst hpc
  intro p l e s m args below meth c A C H locs ls hl hP hD hS
  obtain ⟨hx, hb, hml, hr, hlk, ho, hnm, hts, hK, hA, hX⟩ := id C
  refine lv_icmp_ge hx hb hdg ht (fun h => ?_) (fun h => ?_)
  · exact kt ((iI_le hb0 ha).mp (by first | exact h | simpa using h)) p l e s m args below meth c A C H locs ls hl hP hD hS
  · exact kf (fun h2 => h ((iI_le hb0 ha).mpr h2)) p l e s m args below meth c A C H locs ls hl hP hD hS
theorem j_if_ge {E : jD} {Y : jY} {Z : jZ} {k n pc : Nat} {lv : List (Nat × Value)} {st : List Value} {M : va_W} (tgt pc' : Nat) {a off : Int} (hdg : decode Y.2.1 pc = .ok (.ifCond .ge off, 3)) (ha : jr a) (kt : 0 ≤ a → J E Y Z k n tgt lv st M) (kf : ¬ (0 ≤ a) → J E Y Z k n pc' lv st M) (ht : (pc : Int) + off = (tgt : Int) := by decide) (hpc : pc + 3 = pc' := by rfl) : J E Y Z k n pc lv (.int (iI a) :: st) M := by
  subst hpc
  intro p l e s m args below meth c A C H locs ls hl hP hD hS
  obtain ⟨hx, hb, hml, hr, hlk, ho, hnm, hts, hK, hA, hX⟩ := id C
  refine lv_if_ge hx hb hdg ht (fun h => ?_) (fun h => ?_)
  · rw [← iI_0] at h
    exact kt ((iI_le jr_0 ha).mp (by first | exact h | simpa using h)) p l e s m args below meth c A C H locs ls hl hP hD hS
  · rw [← iI_0] at h
    exact kf (fun h2 => h ((iI_le jr_0 ha).mpr h2)) p l e s m args below meth c A C H locs ls hl hP hD hS
theorem j_icmp_gt {E : jD} {Y : jY} {Z : jZ} {k n pc : Nat} {lv : List (Nat × Value)} {st : List Value} {M : va_W} (tgt pc' : Nat) {a b off : Int} (hdg : decode Y.2.1 pc = .ok (.if_icmp .gt off, 3)) (ha : jr a) (hb0 : jr b) (kt : b < a → J E Y Z k n tgt lv st M) (kf : ¬ (b < a) → J E Y Z k n pc' lv st M) (ht : (pc : Int) + off = (tgt : Int) := by decide) (hpc : pc + 3 = pc' := by rfl) : J E Y Z k n pc lv (.int (iI b) :: .int (iI a) :: st) M := by
  subst hpc
  intro p l e s m args below meth c A C H locs ls hl hP hD hS
  obtain ⟨hx, hb, hml, hr, hlk, ho, hnm, hts, hK, hA, hX⟩ := id C
  refine lv_icmp_gt hx hb hdg ht (fun h => ?_) (fun h => ?_)
  · exact kt ((iI_lt hb0 ha).mp (by first | exact h | simpa using h)) p l e s m args below meth c A C H locs ls hl hP hD hS
  · exact kf (fun h2 => h ((iI_lt hb0 ha).mpr h2)) p l e s m args below meth c A C H locs ls hl hP hD hS
theorem j_if_gt {E : jD} {Y : jY} {Z : jZ} {k n pc : Nat} {lv : List (Nat × Value)} {st : List Value} {M : va_W} (tgt pc' : Nat) {a off : Int} (hdg : decode Y.2.1 pc = .ok (.ifCond .gt off, 3)) (ha : jr a) (kt : 0 < a → J E Y Z k n tgt lv st M) (kf : ¬ (0 < a) → J E Y Z k n pc' lv st M) (ht : (pc : Int) + off = (tgt : Int) := by decide) (hpc : pc + 3 = pc' := by rfl) : J E Y Z k n pc lv (.int (iI a) :: st) M := by
  subst hpc
  intro p l e s m args below meth c A C H locs ls hl hP hD hS
  obtain ⟨hx, hb, hml, hr, hlk, ho, hnm, hts, hK, hA, hX⟩ := id C
  refine lv_if_gt hx hb hdg ht (fun h => ?_) (fun h => ?_)
  · rw [← iI_0] at h
    exact kt ((iI_lt jr_0 ha).mp (by first | exact h | simpa using h)) p l e s m args below meth c A C H locs ls hl hP hD hS
  · rw [← iI_0] at h
    exact kf (fun h2 => h ((iI_lt jr_0 ha).mpr h2)) p l e s m args below meth c A C H locs ls hl hP hD hS
theorem j_icmp_le {E : jD} {Y : jY} {Z : jZ} {k n pc : Nat} {lv : List (Nat × Value)} {st : List Value} {M : va_W} (tgt pc' : Nat) {a b off : Int} (hdg : decode Y.2.1 pc = .ok (.if_icmp .le off, 3)) (ha : jr a) (hb0 : jr b) (kt : a ≤ b → J E Y Z k n tgt lv st M) (kf : ¬ (a ≤ b) → J E Y Z k n pc' lv st M) (ht : (pc : Int) + off = (tgt : Int) := by decide) (hpc : pc + 3 = pc' := by rfl) : J E Y Z k n pc lv (.int (iI b) :: .int (iI a) :: st) M := by
  subst hpc
  intro p l e s m args below meth c A C H locs ls hl hP hD hS
  obtain ⟨hx, hb, hml, hr, hlk, ho, hnm, hts, hK, hA, hX⟩ := id C
  refine lv_icmp_le hx hb hdg ht (fun h => ?_) (fun h => ?_)
  · exact kt ((iI_le ha hb0).mp (by first | exact h | simpa using h)) p l e s m args below meth c A C H locs ls hl hP hD hS
  · exact kf (fun h2 => h ((iI_le ha hb0).mpr h2)) p l e s m args below meth c A C H locs ls hl hP hD hS
theorem j_if_le {E : jD} {Y : jY} {Z : jZ} {k n pc : Nat} {lv : List (Nat × Value)} {st : List Value} {M : va_W} (tgt pc' : Nat) {a off : Int} (hdg : decode Y.2.1 pc = .ok (.ifCond .le off, 3)) (ha : jr a) (kt : a ≤ 0 → J E Y Z k n tgt lv st M) (kf : ¬ (a ≤ 0) → J E Y Z k n pc' lv st M) (ht : (pc : Int) + off = (tgt : Int) := by decide) (hpc : pc + 3 = pc' := by rfl) : J E Y Z k n pc lv (.int (iI a) :: st) M := by
  subst hpc
  intro p l e s m args below meth c A C H locs ls hl hP hD hS
  obtain ⟨hx, hb, hml, hr, hlk, ho, hnm, hts, hK, hA, hX⟩ := id C
  refine lv_if_le hx hb hdg ht (fun h => ?_) (fun h => ?_)
  · rw [← iI_0] at h
    exact kt ((iI_le ha jr_0).mp (by first | exact h | simpa using h)) p l e s m args below meth c A C H locs ls hl hP hD hS
  · rw [← iI_0] at h
    exact kf (fun h2 => h ((iI_le ha jr_0).mpr h2)) p l e s m args below meth c A C H locs ls hl hP hD hS
theorem j_goto {E : jD} {Y : jY} {Z : jZ} {k n pc : Nat} {lv : List (Nat × Value)} {st : List Value} {M : va_W} (tgt : Nat) {off : Int} (hdg : decode Y.2.1 pc = .ok (.goto off, 3)) (kk : J E Y Z k n tgt lv st M) (ht : (pc : Int) + off = (tgt : Int) := by decide) : J E Y Z k n pc lv st M := by
  intro p l e s m args below meth c A C H locs ls hl hP hD hS
  obtain ⟨hx, hb, hml, hr, hlk, ho, hnm, hts, hK, hA, hX⟩ := id C
  exact lv_goto hx hb hdg ht (kk p l e s m args below meth c A C H locs ls hl hP hD hS)
theorem j_tabIn {E : jD} {Y : jY} {Z : jZ} {k n pc : Nat} {lv : List (Nat × Value)} {st : List Value} {M : va_W} (tgt : Nat) {dflt lo hi : Int} {offs : Array Int} {len : Nat} {a off : Int} (hdg : decode Y.2.1 pc = .ok (.tableswitch dflt lo hi offs, len)) (ha : jr a) (h1 : ¬ a < lo) (h2 : ¬ hi < a) (hoff : offs[(a - lo).toNat]? = some off) (ht : (pc : Int) + off = (tgt : Int)) (kk : J E Y Z k n tgt lv st M) : J E Y Z k n pc lv (.int (iI a) :: st) M := by
  intro p l e s m args below meth c A C H locs ls hl hP hD hS
  obtain ⟨hx, hb, hml, hr, hlk, ho, hnm, hts, hK, hA, hX⟩ := id C
  exact lv_tableIn hx hb hdg (by rw [iI_t ha]; exact h1) (by rw [iI_t ha]; exact h2) (by rw [iI_t ha]; exact hoff) ht (kk p l e s m args below meth c A C H locs ls hl hP hD hS)
theorem j_tabOut {E : jD} {Y : jY} {Z : jZ} {k n pc : Nat} {lv : List (Nat × Value)} {st : List Value} {M : va_W} (tgt : Nat) {dflt lo hi : Int} {offs : Array Int} {len : Nat} {a : Int} (hdg : decode Y.2.1 pc = .ok (.tableswitch dflt lo hi offs, len)) (ha : jr a) (h : a < lo ∨ hi < a) (ht : (pc : Int) + dflt = (tgt : Int)) (kk : J E Y Z k n tgt lv st M) : J E Y Z k n pc lv (.int (iI a) :: st) M := by
  intro p l e s m args below meth c A C H locs ls hl hP hD hS
  obtain ⟨hx, hb, hml, hr, hlk, ho, hnm, hts, hK, hA, hX⟩ := id C
  exact lv_tableOut hx hb hdg (by rw [iI_t ha]; exact h) ht (kk p l e s m args below meth c A C H locs ls hl hP hD hS)
def jFG (own : String) (idx ci f : Nat) : Prop := ∃ (C : String) (T : u_T) (N : Nat), vwCl[ci]? = some (C, T, N) ∧ f < N ∧ (∀ w ∈ u_ws C T N, w ∈ jT) ∧ Cond.fieldLink own idx (T f).1 (T f).2.1 (T f).2.2.1 ∈ jT
def jFP (own : String) (idx ci f : Nat) (ty : FieldType) (fin : Bool) : Prop := ∃ (C : String) (T : u_T) (N : Nat) (ty0 : Nat → FieldType), vwCl[ci]? = some (C, T, N) ∧ f < N ∧ (∀ w ∈ u_ws C T N, w ∈ jT) ∧ Cond.fieldLink own idx (T f).1 (T f).2.1 (T f).2.2.1 ∈ jT ∧ (∀ k, k < N → parseFieldDescriptor (T k).2.2.1 = some (ty0 k)) ∧ (∀ a, a < N → ∀ b, b < N → a ≠ b → (T a).2.1 ≠ (T b).2.1) ∧ parseFieldDescriptor (T f).2.2.1 = some ty ∧ (T f).2.2.2 = fin ∧ (T f).1 = C
theorem j_get {E : jD} {Y : jY} {Z : jZ} {k n pc : Nat} {lv : List (Nat × Value)} {st : List Value} {M : va_W} (pc' q0 : Nat) {idx ci f a : Nat} {fs : List Value} {v : Value} (hf : jFG Y.1.cls idx ci f) (hdg : decode Y.2.1 pc = .ok (.getfield idx, 3)) (he : M[q0]? = some (a, jO ci fs)) (hv : fs[f]? = some v) (kk : J E Y Z k n pc' lv (v :: st) M) (hpc : pc + 3 = pc' := by rfl) : J E Y Z k n pc lv (.ref a :: st) M := by
  subst hpc
  intro p l e s m args below meth c A C H locs ls hl hP hD hS
  obtain ⟨hx, hb, hml, hr, hlk, ho, hnm, hts, hK, hA, hX⟩ := id C
  exact by
    obtain ⟨C0, T, N, h1, h2, h3, h4⟩ := hf
    exact va_get hx hb hts h3 ho hK.1 hP q0 he h1 f h2 (hts _ h4) (fun x h => h) hv hdg (kk p l e s m args below meth c A C H locs ls hl hP hD hS)
theorem j_put {E : jD} {Y : jY} {Z : jZ} {k n pc : Nat} {lv : List (Nat × Value)} {st : List Value} {M : va_W} (pc' q0 : Nat) {idx ci f a : Nat} {fs : List Value} {v : Value} {ty : FieldType} (hf : jFP Y.1.cls idx ci f ty false) (hdg : decode Y.2.1 pc = .ok (.putfield idx, 3)) (he : M[q0]? = some (a, jO ci fs)) (hn : narrow ty v = v ∧ fits ty v = true ∧ Nat.blt f fs.length = true) (kk : J E Y Z k n pc' lv st (M.set q0 (a, jO ci (fs.set f v)))) (hpc : pc + 3 = pc' := by rfl) : J E Y Z k n pc lv (v :: .ref a :: st) M := by
  subst hpc
  intro p l e s m args below meth c A C H locs ls hl hP hD hS
  obtain ⟨hx, hb, hml, hr, hlk, ho, hnm, hts, hK, hA, hX⟩ := id C
  obtain ⟨C0, T, N, ty0, h1, h2, h3, h4, h5, h6, h7, h8, h9⟩ := hf
  exact va_put hx hb hts h3 ty0 h5 h6 ho hK.1 hP hD hS q0 he h1 f h2 (hts _ h4) (fun x h => h) h8 h7 hn.1 hn.2.1 (Nat.le_of_ble_eq_true hn.2.2) hdg (fun H1 locs1 hP1 hD1 hS1 => kk p l e s m args below meth c A C H1 locs1 ls hl hP1 hD1 hS1)
theorem j_putF {E : jD} {Y : jY} {Z : jZ} {k n pc : Nat} {lv : List (Nat × Value)} {st : List Value} {M : va_W} (pc' q0 : Nat) {idx ci f a : Nat} {fs : List Value} {v : Value} {ty : FieldType} (hf : jFP Y.1.cls idx ci f ty true) (hin : Y.1.name = "<init>") (hci : vwCl[ci]?.map Prod.fst = some Y.1.cls) (hdg : decode Y.2.1 pc = .ok (.putfield idx, 3)) (he : M[q0]? = some (a, jO ci fs)) (hn : narrow ty v = v ∧ fits ty v = true ∧ Nat.blt f fs.length = true) (kk : J E Y Z k n pc' lv st (M.set q0 (a, jO ci (fs.set f v)))) (hpc : pc + 3 = pc' := by rfl) : J E Y Z k n pc lv (v :: .ref a :: st) M := by
  subst hpc
  intro p l e s m args below meth c A C H locs ls hl hP hD hS
  obtain ⟨hx, hb, hml, hr, hlk, ho, hnm, hts, hK, hA, hX⟩ := id C
  obtain ⟨C0, T, N, ty0, h1, h2, h3, h4, h5, h6, h7, h8, h9⟩ := hf
  have h10 : C0 = Y.1.cls := by rw [h1] at hci; exact Option.some.inj hci
  exact va_putF hx hb hts h3 ty0 h5 h6 ho hK.1 hP hD hS q0 he h1 f h2 (hts _ h4) (fun x h => h) h8 (hnm.trans hin) (h9.trans h10) h7 hn.1 hn.2.1 (Nat.le_of_ble_eq_true hn.2.2) hdg (fun H1 locs1 hP1 hD1 hS1 => kk p l e s m args below meth c A C H1 locs1 ls hl hP1 hD1 hS1)
theorem j_iald {E : jD} {Y : jY} {Z : jZ} {k n pc : Nat} {lv : List (Nat × Value)} {st : List Value} {M : va_W} (pc' q0 j : Nat) {a N : Nat} {f : Nat → Int32} {z : Int} (hdg : decode Y.2.1 pc = .ok (.iaload, 1)) (he : M[q0]? = some (a, jA E N f)) (hN : Nat.blt N 2147483648 = true) (hz : z = (j : Int)) (hj : j < N) (kk : J E Y Z k n pc' lv (.int (iI (f j).toInt) :: st) M) (hpc : pc + 1 = pc' := by rfl) : J E Y Z k n pc lv (.int (iI z) :: .ref a :: st) M := by
  subst hpc
  intro p l e s m args below meth c A C H locs ls hl hP hD hS
  obtain ⟨hx, hb, hml, hr, hlk, ho, hnm, hts, hK, hA, hX⟩ := id C
  exact by
    have hN := Nat.le_of_ble_eq_true hN
    subst hz
    refine va_iald hx hb hK.1 hP q0 0 he rfl (iI_in hj hN) hdg ?_
    rw [iI_clamp (by omega), ← iI_x (f j)]
    exact (kk p l e s m args below meth c A C H locs ls hl hP hD hS)
theorem j_ialdx {E : jD} {Y : jY} {Z : jZ} {k n pc : Nat} {lv : List (Nat × Value)} {st : List Value} {M : va_W} (pc' q0 j : Nat) {a N : Nat} {f : Nat → Int32} {z : Int} (hdg : decode Y.2.1 pc = .ok (.iaload, 1)) (he : M[q0]? = some (a, jA E N f)) (hN : Nat.blt N 2147483648 = true) (hz : z = (j : Int)) (hj : j < N) (kk : J E Y Z k n pc' lv (.int (f j) :: st) M) (hpc : pc + 1 = pc' := by rfl) : J E Y Z k n pc lv (.int (iI z) :: .ref a :: st) M := by
  subst hpc
  intro p l e s m args below meth c A C H locs ls hl hP hD hS
  obtain ⟨hx, hb, hml, hr, hlk, ho, hnm, hts, hK, hA, hX⟩ := id C
  exact by
    have hN := Nat.le_of_ble_eq_true hN
    subst hz
    refine va_iald hx hb hK.1 hP q0 0 he rfl (iI_in hj hN) hdg ?_
    rw [iI_clamp (by omega)]
    exact (kk p l e s m args below meth c A C H locs ls hl hP hD hS)
theorem j_ialdw {E : jD} {Y : jY} {Z : jZ} {k n pc : Nat} {lv : List (Nat × Value)} {st : List Value} {M : va_W} (pc' q0 j : Nat) (w : Int) {a N : Nat} {f : Nat → Int32} {z : Int} (hdg : decode Y.2.1 pc = .ok (.iaload, 1)) (he : M[q0]? = some (a, jA E N f)) (hN : Nat.blt N 2147483648 = true) (hz : z = (j : Int)) (hj : j < N) (hw : f j = iI w) (kk : J E Y Z k n pc' lv (.int (iI w) :: st) M) (hpc : pc + 1 = pc' := by rfl) : J E Y Z k n pc lv (.int (iI z) :: .ref a :: st) M := by
  subst hpc
  intro p l e s m args below meth c A C H locs ls hl hP hD hS
  obtain ⟨hx, hb, hml, hr, hlk, ho, hnm, hts, hK, hA, hX⟩ := id C
  exact by
    have hN := Nat.le_of_ble_eq_true hN
    subst hz
    refine va_iald hx hb hK.1 hP q0 0 he rfl (iI_in hj hN) hdg ?_
    rw [iI_clamp (by omega), hw]
    exact (kk p l e s m args below meth c A C H locs ls hl hP hD hS)
theorem j_lald {E : jD} {Y : jY} {Z : jZ} {k n pc : Nat} {lv : List (Nat × Value)} {st : List Value} {M : va_W} (pc' q0 j : Nat) {a N : Nat} {f : Nat → Int64} {z : Int} (hdg : decode Y.2.1 pc = .ok (.laload, 1)) (he : M[q0]? = some (a, jL E N f)) (hN : Nat.blt N 2147483648 = true) (hz : z = (j : Int)) (hj : j < N) (kk : J E Y Z k n pc' lv (.long (f j) :: st) M) (hpc : pc + 1 = pc' := by rfl) : J E Y Z k n pc lv (.int (iI z) :: .ref a :: st) M := by
  subst hpc
  intro p l e s m args below meth c A C H locs ls hl hP hD hS
  obtain ⟨hx, hb, hml, hr, hlk, ho, hnm, hts, hK, hA, hX⟩ := id C
  exact by
    have hN := Nat.le_of_ble_eq_true hN
    subst hz
    refine va_lald hx hb hK.1 hP q0 1 he rfl (iI_in hj hN) hdg ?_
    rw [iI_clamp (by omega)]
    exact (kk p l e s m args below meth c A C H locs ls hl hP hD hS)
theorem j_aald2 {E : jD} {Y : jY} {Z : jZ} {k n pc : Nat} {lv : List (Nat × Value)} {st : List Value} {M : va_W} (pc' q0 j b : Nat) {a N : Nat} {f : Nat → Option Nat} {z : Int} (hdg : decode Y.2.1 pc = .ok (.aaload, 1)) (he : M[q0]? = some (a, jR E 2 N f)) (hN : Nat.blt N 2147483648 = true) (hz : z = (j : Int)) (hj : j < N) (hf : f j = some b) (kk : J E Y Z k n pc' lv (.ref b :: st) M) (hpc : pc + 1 = pc' := by rfl) : J E Y Z k n pc lv (.int (iI z) :: .ref a :: st) M := by
  subst hpc
  intro p l e s m args below meth c A C H locs ls hl hP hD hS
  obtain ⟨hx, hb, hml, hr, hlk, ho, hnm, hts, hK, hA, hX⟩ := id C
  exact by
    have hN := Nat.le_of_ble_eq_true hN
    subst hz
    refine va_aldq (C := RX4) hx hb hK.1 hP q0 2 he rfl (iI_in hj hN) hdg ?_
    rw [iI_clamp (by omega), hf]
    exact (kk p l e s m args below meth c A C H locs ls hl hP hD hS)
theorem j_aald3 {E : jD} {Y : jY} {Z : jZ} {k n pc : Nat} {lv : List (Nat × Value)} {st : List Value} {M : va_W} (pc' q0 j b : Nat) {a N : Nat} {f : Nat → Option Nat} {z : Int} (hdg : decode Y.2.1 pc = .ok (.aaload, 1)) (he : M[q0]? = some (a, jR E 3 N f)) (hN : Nat.blt N 2147483648 = true) (hz : z = (j : Int)) (hj : j < N) (hf : f j = some b) (kk : J E Y Z k n pc' lv (.ref b :: st) M) (hpc : pc + 1 = pc' := by rfl) : J E Y Z k n pc lv (.int (iI z) :: .ref a :: st) M := by
  subst hpc
  intro p l e s m args below meth c A C H locs ls hl hP hD hS
  obtain ⟨hx, hb, hml, hr, hlk, ho, hnm, hts, hK, hA, hX⟩ := id C
  exact by
    have hN := Nat.le_of_ble_eq_true hN
    subst hz
    refine va_aldq (C := RX2) hx hb hK.1 hP q0 3 he rfl (iI_in hj hN) hdg ?_
    rw [iI_clamp (by omega), hf]
    exact (kk p l e s m args below meth c A C H locs ls hl hP hD hS)
theorem j_alen {E : jD} {Y : jY} {Z : jZ} {k n pc : Nat} {lv : List (Nat × Value)} {st : List Value} {M : va_W} (pc' q0 : Nat) {a N : Nat} {f : Nat → Int32} (hdg : decode Y.2.1 pc = .ok (.arraylength, 1)) (he : M[q0]? = some (a, jA E N f)) (kk : J E Y Z k n pc' lv (.int (iI (N : Int)) :: st) M) (hpc : pc + 1 = pc' := by rfl) : J E Y Z k n pc lv (.ref a :: st) M := by
  subst hpc
  intro p l e s m args below meth c A C H locs ls hl hP hD hS
  obtain ⟨hx, hb, hml, hr, hlk, ho, hnm, hts, hK, hA, hX⟩ := id C
  exact va_alen (ty := .int) hx hb hK.1 hP q0 0 he rfl rfl hdg (kk p l e s m args below meth c A C H locs ls hl hP hD hS)
theorem j_alenL {E : jD} {Y : jY} {Z : jZ} {k n pc : Nat} {lv : List (Nat × Value)} {st : List Value} {M : va_W} (pc' q0 : Nat) {a N : Nat} {f : Nat → Int64} (hdg : decode Y.2.1 pc = .ok (.arraylength, 1)) (he : M[q0]? = some (a, jL E N f)) (kk : J E Y Z k n pc' lv (.int (iI (N : Int)) :: st) M) (hpc : pc + 1 = pc' := by rfl) : J E Y Z k n pc lv (.ref a :: st) M := by
  subst hpc
  intro p l e s m args below meth c A C H locs ls hl hP hD hS
  obtain ⟨hx, hb, hml, hr, hlk, ho, hnm, hts, hK, hA, hX⟩ := id C
  exact va_alen (ty := .long) hx hb hK.1 hP q0 1 he rfl rfl hdg (kk p l e s m args below meth c A C H locs ls hl hP hD hS)
theorem j_iast {E : jD} {Y : jY} {Z : jZ} {k n pc : Nat} {lv : List (Nat × Value)} {st : List Value} {M : va_W} (pc' q0 j : Nat) {a N : Nat} {f : Nat → Int32} {z : Int} {x : Int32} (hdg : decode Y.2.1 pc = .ok (.iastore, 1)) (he : M[q0]? = some (a, jA E N f)) (hN : Nat.blt N 2147483648 = true) (hz : z = (j : Int)) (hj : j < N) (kk : J E Y Z k n pc' lv st (M.set q0 (a, jA E N (upd f j x)))) (hpc : pc + 1 = pc' := by rfl) : J E Y Z k n pc lv (.int x :: .int (iI z) :: .ref a :: st) M := by
  subst hpc
  subst hz
  intro p l e s m args below meth c A C H locs ls hl hP hD hS
  obtain ⟨hx, hb, hml, hr, hlk, ho, hnm, hts, hK, hA, hX⟩ := id C
  have hN := Nat.le_of_ble_eq_true hN
  refine va_iast hx hb hK.1 hP hD hS q0 0 he rfl (iI_in hj hN) hdg (fun H1 locs1 hP1 hD1 hS1 => ?_)
  rw [iI_clamp (by omega)] at hP1 hD1
  exact kk p l e s m args below meth c A C H1 locs1 ls hl hP1 hD1 hS1
theorem j_last {E : jD} {Y : jY} {Z : jZ} {k n pc : Nat} {lv : List (Nat × Value)} {st : List Value} {M : va_W} (pc' q0 j : Nat) {a N : Nat} {f : Nat → Int64} {z : Int} {x : Int64} (hdg : decode Y.2.1 pc = .ok (.lastore, 1)) (he : M[q0]? = some (a, jL E N f)) (hN : Nat.blt N 2147483648 = true) (hz : z = (j : Int)) (hj : j < N) (kk : J E Y Z k n pc' lv st (M.set q0 (a, jL E N (vp_updL f j x)))) (hpc : pc + 1 = pc' := by rfl) : J E Y Z k n pc lv (.long x :: .int (iI z) :: .ref a :: st) M := by
  subst hpc
  subst hz
  intro p l e s m args below meth c A C H locs ls hl hP hD hS
  obtain ⟨hx, hb, hml, hr, hlk, ho, hnm, hts, hK, hA, hX⟩ := id C
  have hN := Nat.le_of_ble_eq_true hN
  refine va_last hx hb hK.1 hP hD hS q0 1 he rfl (iI_in hj hN) hdg (fun H1 locs1 hP1 hD1 hS1 => ?_)
  rw [iI_clamp (by omega)] at hP1 hD1
  exact kk p l e s m args below meth c A C H1 locs1 ls hl hP1 hD1 hS1
theorem j_aast2 {E : jD} {Y : jY} {Z : jZ} {k n pc : Nat} {lv : List (Nat × Value)} {st : List Value} {M : va_W} (pc' q0 qk j : Nat) {a b N : Nat} {vs : List Value} {f : Nat → Option Nat} {z : Int} (hdg : decode Y.2.1 pc = .ok (.aastore, 1)) (he : M[q0]? = some (a, jR E 2 N f)) (hb0 : M[qk]? = some (b, jO 4 vs)) (hN : Nat.blt N 2147483648 = true) (hz : z = (j : Int)) (hj : j < N) (kk : J E Y Z k n pc' lv st (M.set q0 (a, jR E 2 N (va_up f j (some b))))) (hpc : pc + 1 = pc' := by rfl) : J E Y Z k n pc lv (.ref b :: .int (iI z) :: .ref a :: st) M := by
  subst hpc
  subst hz
  intro p l e s m args below meth c A C H locs ls hl hP hD hS
  obtain ⟨hx, hb, hml, hr, hlk, ho, hnm, hts, hK, hA, hX⟩ := id C
  have hN := Nat.le_of_ble_eq_true hN
  refine va_astq hx hb hK.1 hP hD hS q0 2 qk 4 he rfl hb0 rfl (iI_in hj hN) hdg (fun H1 locs1 hP1 hD1 hS1 => ?_)
  rw [iI_clamp (by omega)] at hP1 hD1
  exact kk p l e s m args below meth c A C H1 locs1 ls hl hP1 hD1 hS1
theorem j_aast3 {E : jD} {Y : jY} {Z : jZ} {k n pc : Nat} {lv : List (Nat × Value)} {st : List Value} {M : va_W} (pc' q0 qk j : Nat) {a b N : Nat} {vs : List Value} {f : Nat → Option Nat} {z : Int} (hdg : decode Y.2.1 pc = .ok (.aastore, 1)) (he : M[q0]? = some (a, jR E 3 N f)) (hb0 : M[qk]? = some (b, jO 2 vs)) (hN : Nat.blt N 2147483648 = true) (hz : z = (j : Int)) (hj : j < N) (kk : J E Y Z k n pc' lv st (M.set q0 (a, jR E 3 N (va_up f j (some b))))) (hpc : pc + 1 = pc' := by rfl) : J E Y Z k n pc lv (.ref b :: .int (iI z) :: .ref a :: st) M := by
  subst hpc
  subst hz
  intro p l e s m args below meth c A C H locs ls hl hP hD hS
  obtain ⟨hx, hb, hml, hr, hlk, ho, hnm, hts, hK, hA, hX⟩ := id C
  have hN := Nat.le_of_ble_eq_true hN
  refine va_astq hx hb hK.1 hP hD hS q0 3 qk 2 he rfl hb0 rfl (iI_in hj hN) hdg (fun H1 locs1 hP1 hD1 hS1 => ?_)
  rw [iI_clamp (by omega)] at hP1 hD1
  exact kk p l e s m args below meth c A C H1 locs1 ls hl hP1 hD1 hS1
theorem j_new {E : jD} {Y : jY} {Z : jZ} {k n pc : Nat} {lv : List (Nat × Value)} {st : List Value} {M : va_W} (pc' : Nat) {idx ci N : Nat} {C0 : String} {T : u_T} {fs : List Value} (ty : Nat → FieldType) (hc : vwCl[ci]? = some (C0, T, N)) (hw : ∀ w ∈ u_ws C0 T N, w ∈ jT) (hty : ∀ k, k < N → parseFieldDescriptor (T k).2.2.1 = some (ty k)) (h1 : Cond.classLink Y.1.cls idx C0 ∈ jT) (h2 : Cond.instantiable C0 N ∈ jT) (h3 : Cond.initialized C0 ∈ jT) (hfs : ∀ j, j < N → defaultValue (ty j) = vp_V fs j) (hdg : decode Y.2.1 pc = .ok (.new idx, 3)) (hroom : (Nat.ble (k + 1) Z.1.cells && Nat.ble (n + N) Z.1.slots) = true) (kk : ∀ q, J E Y Z (k + 1) (n + N) pc' lv (.ref q :: st) (M ++ [(q, jO ci fs)])) (hpc : pc + 3 = pc' := by rfl) : J E Y Z k n pc lv st M := by
  subst hpc
  intro p l e s m args below meth c A C H locs ls hl hP hD hS
  obtain ⟨hx, hb, hml, hr, hlk, ho, hnm, hts, hK, hA, hX⟩ := id C
  rw [Bool.and_eq_true] at hroom
  exact va_new hx hb hts hw ty hty ho (hts _ h1) (hts _ h2) (hts _ h3) hK.1 hP hD hS hA hc hfs (Nat.le_of_ble_eq_true hroom.1) (Nat.le_of_ble_eq_true hroom.2) hdg (fun q H1 hP1 hD1 hS1 => kk q p l e s m args below meth c A C H1 locs ls hl hP1 hD1 hS1)
theorem j_newa {E : jD} {Y : jY} {Z : jZ} {k n pc : Nat} {lv : List (Nat × Value)} {st : List Value} {M : va_W} (pc' N : Nat) {z : Int} (hz : z = (N : Int)) (hN : Nat.ble N 65536 = true) (hdg : decode Y.2.1 pc = .ok (.newarray .int, 2)) (hroom : (Nat.ble (k + 1) Z.1.cells && Nat.ble (n + N) Z.1.slots) = true) (kk : ∀ q, J E Y Z (k + 1) (n + N) pc' lv (.ref q :: st) (M ++ [(q, jA E N (fun _ => 0))])) (hpc : pc + 2 = pc' := by rfl) : J E Y Z k n pc lv (.int (iI z) :: st) M := by
  subst hpc
  subst hz
  intro p l e s m args below meth c A C H locs ls hl hP hD hS
  obtain ⟨hx, hb, hml, hr, hlk, ho, hnm, hts, hK, hA, hX⟩ := id C
  have hN := Nat.le_of_ble_eq_true hN
  rw [Bool.and_eq_true] at hroom
  have hby : componentBytes (.int) ≤ 8 := by decide
  refine va_newa (atype := .int) (ty := .int) (a0 := (N, .inl (fun _ => 0))) hx hb (hts _ wac_int) rfl hK.1 hP hD hS hA (fun cA => rfl) (by rw [← iI_0, iI_lt ⟨by omega, by omega⟩ jr_0]; omega) (iI_clamp (by omega)) (Nat.le_trans (Nat.mul_le_mul hN hby) (by decide)) (Nat.le_of_ble_eq_true hroom.1) (Nat.le_of_ble_eq_true hroom.2) hdg (fun q cA H1 hK1 hP1 hD1 hS1 => ?_)
  have e1 : s.vm.findClass ("[" ++ (FieldType.int).toString) = some cA := (hK1.2 4 (cA, .int) rfl).2
  have e2 : s.vm.findClass ("[" ++ (FieldType.int).toString) = some (E.2 0) := (hK.1.2 0 (E.2 0, .int) rfl).2
  have e3 : cA = E.2 0 := Option.some.inj (e1.symm.trans e2)
  subst e3
  exact kk q p l e s m args below meth c A C H1 locs ls hl hP1 hD1 hS1
theorem j_newl {E : jD} {Y : jY} {Z : jZ} {k n pc : Nat} {lv : List (Nat × Value)} {st : List Value} {M : va_W} (pc' N : Nat) {z : Int} (hz : z = (N : Int)) (hN : Nat.ble N 65536 = true) (hdg : decode Y.2.1 pc = .ok (.newarray .long, 2)) (hroom : (Nat.ble (k + 1) Z.1.cells && Nat.ble (n + N) Z.1.slots) = true) (kk : ∀ q, J E Y Z (k + 1) (n + N) pc' lv (.ref q :: st) (M ++ [(q, jL E N (fun _ => 0))])) (hpc : pc + 2 = pc' := by rfl) : J E Y Z k n pc lv (.int (iI z) :: st) M := by
  subst hpc
  subst hz
  intro p l e s m args below meth c A C H locs ls hl hP hD hS
  obtain ⟨hx, hb, hml, hr, hlk, ho, hnm, hts, hK, hA, hX⟩ := id C
  have hN := Nat.le_of_ble_eq_true hN
  rw [Bool.and_eq_true] at hroom
  have hby : componentBytes (.long) ≤ 8 := by decide
  refine va_newa (atype := .long) (ty := .long) (a0 := (N, .inr (.inl (fun _ => 0)))) hx hb (hts _ wac_long) rfl hK.1 hP hD hS hA (fun cA => rfl) (by rw [← iI_0, iI_lt ⟨by omega, by omega⟩ jr_0]; omega) (iI_clamp (by omega)) (Nat.le_trans (Nat.mul_le_mul hN hby) (by decide)) (Nat.le_of_ble_eq_true hroom.1) (Nat.le_of_ble_eq_true hroom.2) hdg (fun q cA H1 hK1 hP1 hD1 hS1 => ?_)
  have e1 : s.vm.findClass ("[" ++ (FieldType.long).toString) = some cA := (hK1.2 4 (cA, .long) rfl).2
  have e2 : s.vm.findClass ("[" ++ (FieldType.long).toString) = some (E.2 1) := (hK.1.2 1 (E.2 1, .long) rfl).2
  have e3 : cA = E.2 1 := Option.some.inj (e1.symm.trans e2)
  subst e3
  exact kk q p l e s m args below meth c A C H1 locs ls hl hP1 hD1 hS1
theorem j_newq2 {E : jD} {Y : jY} {Z : jZ} {k n pc : Nat} {lv : List (Nat × Value)} {st : List Value} {M : va_W} (pc' N : Nat) {idx : Nat} {z : Int} (hz : z = (N : Int)) (hN : Nat.ble N 65536 = true) (h1 : Cond.classLink Y.1.cls idx RX4 ∈ jT) (hdg : decode Y.2.1 pc = .ok (.anewarray idx, 3)) (hroom : (Nat.ble (k + 1) Z.1.cells && Nat.ble (n + N) Z.1.slots) = true) (kk : ∀ q, J E Y Z (k + 1) (n + N) pc' lv (.ref q :: st) (M ++ [(q, jR E 2 N (fun _ => none))])) (hpc : pc + 3 = pc' := by rfl) : J E Y Z k n pc lv (.int (iI z) :: st) M := by
  subst hpc
  subst hz
  intro p l e s m args below meth c A C H locs ls hl hP hD hS
  obtain ⟨hx, hb, hml, hr, hlk, ho, hnm, hts, hK, hA, hX⟩ := id C
  have hN := Nat.le_of_ble_eq_true hN
  rw [Bool.and_eq_true] at hroom
  refine va_newq hx hb ho (hts _ h1) hK.2.1 hK.1 hP hD hS hA (by rw [← iI_0, iI_lt ⟨by omega, by omega⟩ jr_0]; omega) (iI_clamp (by omega)) (by omega) (Nat.le_of_ble_eq_true hroom.1) (Nat.le_of_ble_eq_true hroom.2) hdg (fun q cA H1 hK1 hP1 hD1 hS1 => ?_)
  obtain ⟨kA, comp, -, -, -, e1⟩ := (hK1.2 4 (cA, .object RX4) rfl).2
  obtain ⟨kA', comp', -, -, -, e2⟩ := (hK.1.2 2 (E.2 2, .object RX4) rfl).2
  have e3 : cA = E.2 2 := Option.some.inj (e1.symm.trans e2)
  subst e3
  exact kk q p l e s m args below meth c A C H1 locs ls hl hP1 hD1 hS1
theorem j_newq3 {E : jD} {Y : jY} {Z : jZ} {k n pc : Nat} {lv : List (Nat × Value)} {st : List Value} {M : va_W} (pc' N : Nat) {idx : Nat} {z : Int} (hz : z = (N : Int)) (hN : Nat.ble N 65536 = true) (h1 : Cond.classLink Y.1.cls idx RX2 ∈ jT) (hdg : decode Y.2.1 pc = .ok (.anewarray idx, 3)) (hroom : (Nat.ble (k + 1) Z.1.cells && Nat.ble (n + N) Z.1.slots) = true) (kk : ∀ q, J E Y Z (k + 1) (n + N) pc' lv (.ref q :: st) (M ++ [(q, jR E 3 N (fun _ => none))])) (hpc : pc + 3 = pc' := by rfl) : J E Y Z k n pc lv (.int (iI z) :: st) M := by
  subst hpc
  subst hz
  intro p l e s m args below meth c A C H locs ls hl hP hD hS
  obtain ⟨hx, hb, hml, hr, hlk, ho, hnm, hts, hK, hA, hX⟩ := id C
  have hN := Nat.le_of_ble_eq_true hN
  rw [Bool.and_eq_true] at hroom
  refine va_newq hx hb ho (hts _ h1) hK.2.2 hK.1 hP hD hS hA (by rw [← iI_0, iI_lt ⟨by omega, by omega⟩ jr_0]; omega) (iI_clamp (by omega)) (by omega) (Nat.le_of_ble_eq_true hroom.1) (Nat.le_of_ble_eq_true hroom.2) hdg (fun q cA H1 hK1 hP1 hD1 hS1 => ?_)
  obtain ⟨kA, comp, -, -, -, e1⟩ := (hK1.2 4 (cA, .object RX2) rfl).2
  obtain ⟨kA', comp', -, -, -, e2⟩ := (hK.1.2 3 (E.2 3, .object RX2) rfl).2
  have e3 : cA = E.2 3 := Option.some.inj (e1.symm.trans e2)
  subst e3
  exact kk q p l e s m args below meth c A C H1 locs ls hl hP1 hD1 hS1
theorem j_iret {E : jD} {Y : jY} {Q : jP} {k n pc : Nat} {lv : List (Nat × Value)} {M : va_W} {v : Int32} (hdg : decode Y.2.1 pc = .ok (.ireturn, 1)) (hret : Y.2.2.2.1 = some .int) (hroom : (Nat.ble k Y.2.2.2.2.2.1 && Nat.ble n Y.2.2.2.2.2.2) = true) (hq : Q (some (.int v)) M) : J E Y (jZm E Y Q) k n pc lv [.int v] M := by
  intro p l e s m args below meth c A C H locs ls hl hP hD hS
  obtain ⟨hx, hb, hml, hr, hlk, ho, hnm, hts, hK, hA, hX⟩ := id C
  rw [Bool.and_eq_true] at hroom
  refine W.widen (Nat.le_of_ble_eq_true hroom.1) (Nat.le_of_ble_eq_true hroom.2) ?_
  exact W.iret hx hb (hr.trans hret) (fun t ht hw => ⟨⟨_, M, rfl, hq, by rw [ht]; exact hP, hD⟩, hS.F ht⟩) (fun q hq => hS.2.2 q hq) hdg hlk
theorem j_zret {E : jD} {Y : jY} {Q : jP} {k n pc : Nat} {lv : List (Nat × Value)} {M : va_W} {v : Int32} (hv : narrow .boolean (.int v) = .int v) (hdg : decode Y.2.1 pc = .ok (.ireturn, 1)) (hret : Y.2.2.2.1 = some .boolean) (hroom : (Nat.ble k Y.2.2.2.2.2.1 && Nat.ble n Y.2.2.2.2.2.2) = true) (hq : Q (some (.int v)) M) : J E Y (jZm E Y Q) k n pc lv [.int v] M := by
  intro p l e s m args below meth c A C H locs ls hl hP hD hS
  obtain ⟨hx, hb, hml, hr, hlk, ho, hnm, hts, hK, hA, hX⟩ := id C
  rw [Bool.and_eq_true] at hroom
  refine W.widen (Nat.le_of_ble_eq_true hroom.1) (Nat.le_of_ble_eq_true hroom.2) ?_
  exact W.zret (ty := .boolean) hx hb (hr.trans hret) hv (fun t ht hw => ⟨⟨_, M, rfl, hq, by rw [ht]; exact hP, hD⟩, hS.F ht⟩) (fun q hq => hS.2.2 q hq) hdg hlk
theorem j_lret {E : jD} {Y : jY} {Q : jP} {k n pc : Nat} {lv : List (Nat × Value)} {M : va_W} {v : Int64} (hdg : decode Y.2.1 pc = .ok (.lreturn, 1)) (hret : Y.2.2.2.1 = some .long) (hroom : (Nat.ble k Y.2.2.2.2.2.1 && Nat.ble n Y.2.2.2.2.2.2) = true) (hq : Q (some (.long v)) M) : J E Y (jZm E Y Q) k n pc lv [.long v] M := by
  intro p l e s m args below meth c A C H locs ls hl hP hD hS
  obtain ⟨hx, hb, hml, hr, hlk, ho, hnm, hts, hK, hA, hX⟩ := id C
  rw [Bool.and_eq_true] at hroom
  refine W.widen (Nat.le_of_ble_eq_true hroom.1) (Nat.le_of_ble_eq_true hroom.2) ?_
  exact W.lret hx hb (hr.trans hret) (fun t ht hw => ⟨⟨_, M, rfl, hq, by rw [ht]; exact hP, hD⟩, hS.F ht⟩) (fun q hq => hS.2.2 q hq) hdg hlk
theorem j_vret {E : jD} {Y : jY} {Q : jP} {k n pc : Nat} {lv : List (Nat × Value)} {M : va_W}  (hdg : decode Y.2.1 pc = .ok (.return_, 1)) (hret : Y.2.2.2.1 = none) (hroom : (Nat.ble k Y.2.2.2.2.2.1 && Nat.ble n Y.2.2.2.2.2.2) = true) (hq : Q none M) : J E Y (jZm E Y Q) k n pc lv [] M := by
  intro p l e s m args below meth c A C H locs ls hl hP hD hS
  obtain ⟨hx, hb, hml, hr, hlk, ho, hnm, hts, hK, hA, hX⟩ := id C
  rw [Bool.and_eq_true] at hroom
  refine W.widen (Nat.le_of_ble_eq_true hroom.1) (Nat.le_of_ble_eq_true hroom.2) ?_
  exact W.vret hx hb (hr.trans hret) (fun t ht hw => ⟨⟨_, M, rfl, hq, by rw [ht]; exact hP, hD⟩, hS.F ht⟩) (fun q hq => hS.2.2 q hq) hdg hlk
def jMF (Y : jY) (np : Nat) : Prop := Cond.initialized Y.1.cls ∈ jT ∧ Cond.code Y.1 Y.2.1 Y.2.2.1 Y.2.2.2.1 ∈ jT ∧ (Y.1.cls ≠ "java/lang/invoke/MethodHandle" ∧ Y.1.cls ≠ "java/lang/invoke/VarHandle" ∧ (parseMethodDescriptor Y.1.desc).map (fun d => d.parameters.length) = some np)
def jMV (Y : jY) (np : Nat) : Prop := jMF Y np ∧ Cond.instanceMethod Y.1 ∈ jT ∧ Cond.selects Y.1.cls Y.1 Y.1 ∈ jT
def jMI (Y : jY) (np : Nat) : Prop := jMF Y np ∧ Cond.instanceMethod Y.1 ∈ jT ∧ Y.1.name = "<init>"
def jMS (Y : jY) (np : Nat) : Prop := jMF Y np ∧ Cond.static Y.1 ∈ jT
def jfit (R : Room) (Y : jY) (k n : Nat) : Bool := Nat.ble (Y.2.2.2.2.1 + 1) R.frames && (Nat.ble (8 + (Y.2.2.1 + 11) + 40 * Y.2.2.2.2.1) R.locals && (Nat.ble (k + Y.2.2.2.2.2.1) R.cells && Nat.ble (n + Y.2.2.2.2.2.2) R.slots))
theorem jfit_of {R : Room} {Y : jY} {k n : Nat} (h : jfit R Y k n = true) : ((jrm Y).frames + 1 ≤ R.frames ∧ 8 + (Y.2.2.1 + 11) + (jrm Y).locals ≤ R.locals) ∧ k + Y.2.2.2.2.2.1 ≤ R.cells ∧ n + Y.2.2.2.2.2.2 ≤ R.slots := by
  unfold jfit at h
  simp only [Bool.and_eq_true] at h
  exact ⟨⟨Nat.le_of_ble_eq_true h.1, Nat.le_of_ble_eq_true h.2.1⟩, Nat.le_of_ble_eq_true h.2.2.1, Nat.le_of_ble_eq_true h.2.2.2⟩
theorem jws_good {Y : jY} {np : Nat} (h : jMF Y np) : GoodIn jT (jws Y) := by
  intro w hw
  have hm : w ∈ jT := by
    rcases List.mem_cons.mp hw with rfl | hw
    · exact h.2.1
    · exact hw
  exact ⟨hm, good_of_word (jT_good hm)⟩
theorem jB_blind {E : jD} {M : va_W} {sz : Nat} {av : List Value} : FrameBlind (va_Pc av (jB E M sz)) := by
  intro a U g mk q
  obtain ⟨q0, q1, qP, qK, qD⟩ := q
  exact ⟨q0, q1, qP, jK.moved (u := U) (U := U.calling g mk a) (Vm.Alike.refl U.vm) qK, qD⟩

theorem j_run {E : jD} {Y : jY} {Z : jZ} {k n pc : Nat} {lv : List (Nat × Value)} {st : List Value} {M : va_W} {pc' mc ms : Nat} {Mc : va_W} {Q' : jP} {rest : List Value} (is : List Nat) {a : Array Value}
    (hrun : ∀ (p : Program) (l : Launch) (e : Env) (s : State) (m : MethodId) (args : Array Value) (below : List Frame) (meth : Method) (c : Code) (A : Nat → Prop), jC E Y Z p s m args meth c A → ∀ (H : Heap) (locs : List Loc) (ls : Array Slot), lv_has ls Y.2.2.1 lv → va_P E.1 vwCl Mc H → va_D A Mc → va_Run p l e Z.1 s m args below meth c H locs k n mc ms (F0 m pc ls st) rest (jQ E Q' (va_A Mc H.size) a) (va_A Mc H.size))
    (hsub : is.map (fun i => M[i]?) = Mc.map some) (hnd : va_nd is = true) (hsame : ∀ r N, Q' r N → (N.take is.length).map Prod.fst = Mc.map Prod.fst)
    (kk : ∀ r N, Q' r N → J E Y Z (k + mc) (n + ms) pc' lv (r.toList ++ rest) (jput M is N)) (hpc : pc + 3 = pc') : J E Y Z k n pc lv st M := by
  subst hpc
  intro p l e s m args below meth c A C H locs ls hl hP hD hS
  obtain ⟨hx, hb, hml, hr, hlk, ho, hnm, hts, hK, hA, hX⟩ := id C
  have hsub2 : is.filterMap (fun i => M[i]?) = Mc := by
    have h1 : is.filterMap (fun i => M[i]?) = (is.map (fun i => M[i]?)).filterMap id := by rw [List.filterMap_map]; rfl
    rw [h1, hsub, List.filterMap_map]
    exact List.filterMap_some
  have hPc := hP.sub is hsub2
  have hDc := hD.sub is hnd hsub
  have hFc := va_free hD hS hA is hsub
  intro T hT X
  obtain ⟨v, st₀, t, T', L, h0, X', hL, e1, e2, ⟨⟨r, N, hv, hq, hP1, hD1⟩, hz, hk⟩, stp⟩ := hrun p l e s m args below meth c A C H locs ls hl hPc hDc T hT X
  cases hv
  rw [h0] at hz hk
  rw [← e1] at hP1 hz hk
  obtain ⟨hP2, hD2⟩ := jput_world hP hD hsub hk hFc hP1 hD1 (hsame _ N hq)
  have hS2 : va_S A s.heap T'.heap (locs ++ L) := ⟨Nat.le_trans hS.1 hz, fun q h1 h2 => (hk q (Nat.lt_of_lt_of_le h1 hS.1) (fun z => h2 (hFc q z))).trans (hS.2.1 q h1 h2), fun q hq => by
    rcases List.mem_append.mp hq with h | h
    · exact hS.2.2 q h
    · exact hFc _ (hL q h)⟩
  obtain ⟨t2, a1, b1⟩ := kk _ N hq p l e s m args below meth c A C T'.heap (locs ++ L) ls hl hP2 hD2 hS2 T' rfl X'
  exact ⟨t2, stp t2 a1, b1⟩
theorem j_runV {E : jD} {Y : jY} {Z : jZ} {k n pc : Nat} {lv : List (Nat × Value)} {st : List Value} {idx np : Nat} {Mc : va_W} {Q' : jP} {rest : List Value} (Y' : jY) {As : List Value} {b q0 ci : Nat} {fs : List Value} {r : vw_C} (hm : MC E Y' (.ref b :: As) Mc Q') (hY : jMV Y' np) (hlk0 : Cond.methodLink Y.1.cls idx Y'.1 ∈ jT) (hc : vwCl[ci]? = some r) (hcn : r.1 = Y'.1.cls) (hre : Mc[q0]? = some (b, jO ci fs)) (hst : st = As.reverse ++ .ref b :: rest) (hnp : As.length = np) (hw : Nat.ble ((rest.map fun v => v.category).sum) 8 = true) (hfit : jfit Z.1 Y' k n = true) (hdg : decode Y.2.1 pc = .ok (.invokevirtual idx, 3)) :
    ∀ (p : Program) (l : Launch) (e : Env) (s : State) (m : MethodId) (args : Array Value) (below : List Frame) (meth : Method) (c : Code) (A : Nat → Prop), jC E Y Z p s m args meth c A → ∀ (H : Heap) (locs : List Loc) (ls : Array Slot), lv_has ls Y.2.2.1 lv → va_P E.1 vwCl Mc H → va_D A Mc → va_Run p l e Z.1 s m args below meth c H locs k n Y'.2.2.2.2.2.1 Y'.2.2.2.2.2.2 (F0 m pc ls st) rest (jQ E Q' (va_A Mc H.size) (Value.ref b :: As).toArray) (va_A Mc H.size) := by
  intro p l e s m args below meth c A C H locs ls hl hP hD
  obtain ⟨hx, hb, hml, hr, hlk, ho, hnm, hts, hK, hA, hX⟩ := id C
  obtain ⟨hR, hf⟩ := jfit_of hfit
  obtain ⟨cell, g1, g2, g3⟩ := va_recv hK.1 hP hc hre
  rw [hcn] at g3
  exact va_runV (As := As) (rest := rest) ⟨hx, hb, hml, ho, hts⟩ (hm l H.size) ⟨callB_of np hts (jws_good hY.1) rfl rfl rfl (hts _ hY.1.1) (hts _ hlk0) hY.1.2.2 hR, hts _ hY.2.1, hts _ hY.2.2⟩ ⟨jB_blind, ⟨cell, g1, g2, g3⟩, fun U hU hW => ⟨rfl, by rw [hU], by rw [hU]; exact hP, jK.moved hW.alike hK, hD.weaken (fun _ _ _ _ => trivial)⟩⟩ rfl hnp hl.1 hst (lv_room (Nat.le_of_ble_eq_true hw)) hdg hf
theorem j_runI {E : jD} {Y : jY} {Z : jZ} {k n pc : Nat} {lv : List (Nat × Value)} {st : List Value} {idx np : Nat} {Mc : va_W} {Q' : jP} {rest : List Value} (Y' : jY) {As : List Value} {b : Nat} (hm : MC E Y' (.ref b :: As) Mc Q') (hY : jMI Y' np) (hret : Y'.2.2.2.1 = none) (hlk0 : Cond.methodLink Y.1.cls idx Y'.1 ∈ jT) (hst : st = As.reverse ++ .ref b :: rest) (hnp : As.length = np) (hw : Nat.ble ((rest.map fun v => v.category).sum) 8 = true) (hfit : jfit Z.1 Y' k n = true) (hdg : decode Y.2.1 pc = .ok (.invokespecial idx, 3)) :
    ∀ (p : Program) (l : Launch) (e : Env) (s : State) (m : MethodId) (args : Array Value) (below : List Frame) (meth : Method) (c : Code) (A : Nat → Prop), jC E Y Z p s m args meth c A → ∀ (H : Heap) (locs : List Loc) (ls : Array Slot), lv_has ls Y.2.2.1 lv → va_P E.1 vwCl Mc H → va_D A Mc → va_Run p l e Z.1 s m args below meth c H locs k n Y'.2.2.2.2.2.1 Y'.2.2.2.2.2.2 (F0 m pc ls st) rest (jQ E Q' (va_A Mc H.size) (Value.ref b :: As).toArray) (va_A Mc H.size) := by
  intro p l e s m args below meth c A C H locs ls hl hP hD
  obtain ⟨hx, hb, hml, hr, hlk, ho, hnm, hts, hK, hA, hX⟩ := id C
  obtain ⟨hR, hf⟩ := jfit_of hfit
  obtain ⟨y0, b0, mL, rt, lvl, mc, ms⟩ := Y'
  cases (show rt = none from hret)
  exact va_runI (As := As) (rest := rest) ⟨hx, hb, hml, ho, hts⟩ (hm l H.size) ⟨callB_of np hts (jws_good hY.1) rfl rfl rfl (hts _ hY.1.1) (hts _ hlk0) hY.1.2.2 hR, hY.2.2, hts _ hY.2.1⟩ ⟨jB_blind, fun U hU hW => ⟨rfl, by rw [hU], by rw [hU]; exact hP, jK.moved hW.alike hK, hD.weaken (fun _ _ _ _ => trivial)⟩⟩ rfl hnp hl.1 hst (lv_room (Nat.le_of_ble_eq_true hw)) hdg hf
theorem j_runS {E : jD} {Y : jY} {Z : jZ} {k n pc : Nat} {lv : List (Nat × Value)} {st : List Value} {idx np : Nat} {Mc : va_W} {Q' : jP} {rest : List Value} (Y' : jY) {As : List Value} (hm : MC E Y' As Mc Q') (hY : jMS Y' np) (hlk0 : Cond.methodLink Y.1.cls idx Y'.1 ∈ jT) (hst : st = As.reverse ++ rest) (hnp : As.length = np) (hw : Nat.ble ((rest.map fun v => v.category).sum) 8 = true) (hfit : jfit Z.1 Y' k n = true) (hdg : decode Y.2.1 pc = .ok (.invokestatic idx, 3)) :
    ∀ (p : Program) (l : Launch) (e : Env) (s : State) (m : MethodId) (args : Array Value) (below : List Frame) (meth : Method) (c : Code) (A : Nat → Prop), jC E Y Z p s m args meth c A → ∀ (H : Heap) (locs : List Loc) (ls : Array Slot), lv_has ls Y.2.2.1 lv → va_P E.1 vwCl Mc H → va_D A Mc → va_Run p l e Z.1 s m args below meth c H locs k n Y'.2.2.2.2.2.1 Y'.2.2.2.2.2.2 (F0 m pc ls st) rest (jQ E Q' (va_A Mc H.size) As.toArray) (va_A Mc H.size) := by
  intro p l e s m args below meth c A C H locs ls hl hP hD
  obtain ⟨hx, hb, hml, hr, hlk, ho, hnm, hts, hK, hA, hX⟩ := id C
  obtain ⟨hR, hf⟩ := jfit_of hfit
  exact va_runS (As := As) (rest := rest) ⟨hx, hb, hml, ho, hts⟩ (hm l H.size) ⟨callB_of np hts (jws_good hY.1) rfl rfl rfl (hts _ hY.1.1) (hts _ hlk0) hY.1.2.2 hR, hts _ hY.2⟩ ⟨jB_blind, fun U hU hW => ⟨rfl, by rw [hU], by rw [hU]; exact hP, jK.moved hW.alike hK, hD.weaken (fun _ _ _ _ => trivial)⟩⟩ rfl hnp hl.1 hst (lv_room (Nat.le_of_ble_eq_true hw)) hdg hf
theorem j_callV {E : jD} {Y : jY} {Z : jZ} {k n pc : Nat} {lv : List (Nat × Value)} {st : List Value} {M : va_W} (pc' : Nat) (Y' : jY) (is : List Nat) (As : List Value) {idx np : Nat} {Mc : va_W} {rest : List Value} {b ci : Nat} {fs : List Value} {r : vw_C} {Q' : jP} (hm : MC E Y' (.ref b :: As) Mc Q') (hY : jMV Y' np) (hlk0 : Cond.methodLink Y.1.cls idx Y'.1 ∈ jT) (hdg : decode Y.2.1 pc = .ok (.invokevirtual idx, 3)) (q0 : Nat) (hc : vwCl[ci]? = some r) (hcn : r.1 = Y'.1.cls) (hre : Mc[q0]? = some (b, jO ci fs)) (hst : st = As.reverse ++ .ref b :: rest) (hnp : As.length = np) (hw : Nat.ble ((rest.map fun v => v.category).sum) 8 = true) (hfit : jfit Z.1 Y' k n = true) (hsub : is.map (fun i => M[i]?) = Mc.map some) (hnd : va_nd is = true) (hsame : ∀ r N, Q' r N → (N.take is.length).map Prod.fst = Mc.map Prod.fst) (kk : ∀ r N, Q' r N → J E Y Z (k + Y'.2.2.2.2.2.1) (n + Y'.2.2.2.2.2.2) pc' lv (r.toList ++ rest) (jput M is N)) (hpc : pc + 3 = pc' := by rfl) : J E Y Z k n pc lv st M :=
  j_run is (j_runV Y' hm hY hlk0 hc hcn hre hst hnp hw hfit hdg) hsub hnd hsame kk hpc
theorem j_callVi {E : jD} {Y : jY} {Z : jZ} {k n pc : Nat} {lv : List (Nat × Value)} {st : List Value} {M : va_W} (pc' : Nat) (Y' : jY) (is : List Nat) (As : List Value) {idx np : Nat} {Mc : va_W} {rest : List Value} {b ci : Nat} {fs : List Value} {r : vw_C} {z : Int} (hm : MC E Y' (.ref b :: As) Mc (fun r N => r = some (.int (iI z)) ∧ N = Mc)) (hY : jMV Y' np) (hlk0 : Cond.methodLink Y.1.cls idx Y'.1 ∈ jT) (hdg : decode Y.2.1 pc = .ok (.invokevirtual idx, 3)) (q0 : Nat) (hc : vwCl[ci]? = some r) (hcn : r.1 = Y'.1.cls) (hre : Mc[q0]? = some (b, jO ci fs)) (hst : st = As.reverse ++ .ref b :: rest) (hnp : As.length = np) (hw : Nat.ble ((rest.map fun v => v.category).sum) 8 = true) (hfit : jfit Z.1 Y' k n = true) (hsub : is.map (fun i => M[i]?) = Mc.map some) (hnd : va_nd is = true) (h0 : Y'.2.2.2.2.2 = (0, 0)) (kk : J E Y Z k n pc' lv (.int (iI z) :: rest) M) (hpc : pc + 3 = pc' := by rfl) : J E Y Z k n pc lv st M := by
  refine j_run is (j_runV Y' hm hY hlk0 hc hcn hre hst hnp hw hfit hdg) hsub hnd (fun r N h => ?_) (fun r N h => ?_) hpc
  · obtain ⟨-, rfl⟩ := h
    have hl : is.length = N.length := by have := congrArg List.length hsub; simpa using this
    rw [hl, List.take_length]
  · obtain ⟨rfl, rfl⟩ := h
    rw [jput_same hsub, h0]
    exact kk
theorem j_callVl {E : jD} {Y : jY} {Z : jZ} {k n pc : Nat} {lv : List (Nat × Value)} {st : List Value} {M : va_W} (pc' : Nat) (Y' : jY) (is : List Nat) (As : List Value) {idx np : Nat} {Mc : va_W} {rest : List Value} {b ci : Nat} {fs : List Value} {r : vw_C} {z : Int64} (hm : MC E Y' (.ref b :: As) Mc (fun r N => r = some (.long z) ∧ N = Mc)) (hY : jMV Y' np) (hlk0 : Cond.methodLink Y.1.cls idx Y'.1 ∈ jT) (hdg : decode Y.2.1 pc = .ok (.invokevirtual idx, 3)) (q0 : Nat) (hc : vwCl[ci]? = some r) (hcn : r.1 = Y'.1.cls) (hre : Mc[q0]? = some (b, jO ci fs)) (hst : st = As.reverse ++ .ref b :: rest) (hnp : As.length = np) (hw : Nat.ble ((rest.map fun v => v.category).sum) 8 = true) (hfit : jfit Z.1 Y' k n = true) (hsub : is.map (fun i => M[i]?) = Mc.map some) (hnd : va_nd is = true) (h0 : Y'.2.2.2.2.2 = (0, 0)) (kk : J E Y Z k n pc' lv (.long z :: rest) M) (hpc : pc + 3 = pc' := by rfl) : J E Y Z k n pc lv st M := by
  refine j_run is (j_runV Y' hm hY hlk0 hc hcn hre hst hnp hw hfit hdg) hsub hnd (fun r N h => ?_) (fun r N h => ?_) hpc
  · obtain ⟨-, rfl⟩ := h
    have hl : is.length = N.length := by have := congrArg List.length hsub; simpa using this
    rw [hl, List.take_length]
  · obtain ⟨rfl, rfl⟩ := h
    rw [jput_same hsub, h0]
    exact kk
theorem j_callI {E : jD} {Y : jY} {Z : jZ} {k n pc : Nat} {lv : List (Nat × Value)} {st : List Value} {M : va_W} (pc' : Nat) (Y' : jY) (is : List Nat) (As : List Value) {idx np : Nat} {Mc : va_W} {rest : List Value} {b : Nat} {Q' : jP} (hm : MC E Y' (.ref b :: As) Mc Q') (hY : jMI Y' np) (hlk0 : Cond.methodLink Y.1.cls idx Y'.1 ∈ jT) (hdg : decode Y.2.1 pc = .ok (.invokespecial idx, 3)) (hret : Y'.2.2.2.1 = none) (hst : st = As.reverse ++ .ref b :: rest) (hnp : As.length = np) (hw : Nat.ble ((rest.map fun v => v.category).sum) 8 = true) (hfit : jfit Z.1 Y' k n = true) (hsub : is.map (fun i => M[i]?) = Mc.map some) (hnd : va_nd is = true) (hsame : ∀ r N, Q' r N → (N.take is.length).map Prod.fst = Mc.map Prod.fst) (kk : ∀ r N, Q' r N → J E Y Z (k + Y'.2.2.2.2.2.1) (n + Y'.2.2.2.2.2.2) pc' lv (r.toList ++ rest) (jput M is N)) (hpc : pc + 3 = pc' := by rfl) : J E Y Z k n pc lv st M :=
  j_run is (j_runI Y' hm hY hret hlk0 hst hnp hw hfit hdg) hsub hnd hsame kk hpc
theorem j_callS {E : jD} {Y : jY} {Z : jZ} {k n pc : Nat} {lv : List (Nat × Value)} {st : List Value} {M : va_W} (pc' : Nat) (Y' : jY) (is : List Nat) (As : List Value) {idx np : Nat} {Mc : va_W} {rest : List Value} {Q' : jP} (hm : MC E Y' As Mc Q') (hY : jMS Y' np) (hlk0 : Cond.methodLink Y.1.cls idx Y'.1 ∈ jT) (hdg : decode Y.2.1 pc = .ok (.invokestatic idx, 3)) (hst : st = As.reverse ++ rest) (hnp : As.length = np) (hw : Nat.ble ((rest.map fun v => v.category).sum) 8 = true) (hfit : jfit Z.1 Y' k n = true) (hsub : is.map (fun i => M[i]?) = Mc.map some) (hnd : va_nd is = true) (hsame : ∀ r N, Q' r N → (N.take is.length).map Prod.fst = Mc.map Prod.fst) (kk : ∀ r N, Q' r N → J E Y Z (k + Y'.2.2.2.2.2.1) (n + Y'.2.2.2.2.2.2) pc' lv (r.toList ++ rest) (jput M is N)) (hpc : pc + 3 = pc' := by rfl) : J E Y Z k n pc lv st M :=
  j_run is (j_runS Y' hm hY hlk0 hst hnp hw hfit hdg) hsub hnd hsame kk hpc
theorem j_callSi {E : jD} {Y : jY} {Z : jZ} {k n pc : Nat} {lv : List (Nat × Value)} {st : List Value} {M : va_W} (pc' : Nat) (Y' : jY) (is : List Nat) (As : List Value) {idx np : Nat} {Mc : va_W} {rest : List Value} {z : Int} (hm : MC E Y' As Mc (fun r N => r = some (.int (iI z)) ∧ N = Mc)) (hY : jMS Y' np) (hlk0 : Cond.methodLink Y.1.cls idx Y'.1 ∈ jT) (hdg : decode Y.2.1 pc = .ok (.invokestatic idx, 3)) (hst : st = As.reverse ++ rest) (hnp : As.length = np) (hw : Nat.ble ((rest.map fun v => v.category).sum) 8 = true) (hfit : jfit Z.1 Y' k n = true) (hsub : is.map (fun i => M[i]?) = Mc.map some) (hnd : va_nd is = true) (h0 : Y'.2.2.2.2.2 = (0, 0)) (kk : J E Y Z k n pc' lv (.int (iI z) :: rest) M) (hpc : pc + 3 = pc' := by rfl) : J E Y Z k n pc lv st M := by
  refine j_run is (j_runS Y' hm hY hlk0 hst hnp hw hfit hdg) hsub hnd (fun r N h => ?_) (fun r N h => ?_) hpc
  · obtain ⟨-, rfl⟩ := h
    have hl : is.length = N.length := by have := congrArg List.length hsub; simpa using this
    rw [hl, List.take_length]
  · obtain ⟨rfl, rfl⟩ := h
    rw [jput_same hsub, h0]
    exact kk
theorem j_callSl {E : jD} {Y : jY} {Z : jZ} {k n pc : Nat} {lv : List (Nat × Value)} {st : List Value} {M : va_W} (pc' : Nat) (Y' : jY) (is : List Nat) (As : List Value) {idx np : Nat} {Mc : va_W} {rest : List Value} {z : Int64} (hm : MC E Y' As Mc (fun r N => r = some (.long z) ∧ N = Mc)) (hY : jMS Y' np) (hlk0 : Cond.methodLink Y.1.cls idx Y'.1 ∈ jT) (hdg : decode Y.2.1 pc = .ok (.invokestatic idx, 3)) (hst : st = As.reverse ++ rest) (hnp : As.length = np) (hw : Nat.ble ((rest.map fun v => v.category).sum) 8 = true) (hfit : jfit Z.1 Y' k n = true) (hsub : is.map (fun i => M[i]?) = Mc.map some) (hnd : va_nd is = true) (h0 : Y'.2.2.2.2.2 = (0, 0)) (kk : J E Y Z k n pc' lv (.long z :: rest) M) (hpc : pc + 3 = pc' := by rfl) : J E Y Z k n pc lv st M := by
  refine j_run is (j_runS Y' hm hY hlk0 hst hnp hw hfit hdg) hsub hnd (fun r N h => ?_) (fun r N h => ?_) hpc
  · obtain ⟨-, rfl⟩ := h
    have hl : is.length = N.length := by have := congrArg List.length hsub; simpa using this
    rw [hl, List.take_length]
  · obtain ⟨rfl, rfl⟩ := h
    rw [jput_same hsub, h0]
    exact kk
theorem j_obj {E : jD} {Y : jY} {Z : jZ} {k n pc : Nat} {lv : List (Nat × Value)} {st : List Value} {M : va_W} (pc' : Nat) {idx a : Nat} (h1 : Cond.methodLink Y.1.cls idx Lib.objectInit ∈ jT) (hdg : decode Y.2.1 pc = .ok (.invokespecial idx, 3)) (hroom : (Nat.ble 1 Z.1.frames && Nat.ble ((st.map fun v => v.category).sum + 12) Z.1.locals) = true) (kk : J E Y Z k n pc' lv (st) M) (hpc : pc + 3 = pc' := by rfl) : J E Y Z k n pc lv (.ref a :: st) M := by
  subst hpc
  intro p l e s m args below meth c A C H locs ls hl hP hD hS
  obtain ⟨hx, hb, hml, hr, hlk, ho, hnm, hts, hK, hA, hX⟩ := id C
  exact by
    rw [Bool.and_eq_true] at hroom
    exact W.objInit hx hb ho (hts _ h1) (hts _ wim_objectInit) (hts _ wc_objectInit) rfl (hl.1.trans hml.symm) rfl hdg (Nat.le_of_ble_eq_true hroom.1) (by show 2 * 0 + _ + 12 ≤ _; have := Nat.le_of_ble_eq_true hroom.2; omega) (kk p l e s m args below meth c A C H locs ls hl hP hD hS)
theorem j_max {E : jD} {Y : jY} {Z : jZ} {k n pc : Nat} {lv : List (Nat × Value)} {st : List Value} {M : va_W} (pc' : Nat) {idx : Nat} {a b : Int} (h1 : Cond.methodLink Y.1.cls idx Lib.Math.max.name ∈ jT) (hdg : decode Y.2.1 pc = .ok (.invokestatic idx, 3)) (ra : jr a) (rb : jr b) (hroom : (Nat.ble 1 Z.1.frames && (Nat.ble ((st.map fun v => v.category).sum + 13) Z.1.locals && (Nat.ble k Z.1.cells && Nat.ble n Z.1.slots))) = true) (kk : J E Y Z k n pc' lv (.int (iI (max a b)) :: st) M) (hpc : pc + 3 = pc' := by rfl) : J E Y Z k n pc lv (.int (iI b) :: .int (iI a) :: st) M := by
  subst hpc
  intro p l e s m args below meth c A C H locs ls hl hP hD hS
  obtain ⟨hx, hb, hml, hr, hlk, ho, hnm, hts, hK, hA, hX⟩ := id C
  exact by
    simp only [Bool.and_eq_true] at hroom
    refine va_mmax hx hb (hml.trans hl.1.symm) ho (hts _ h1) (hts _ wst_yJ9_max_7cf53) (hts _ wi_java_lang_Math) (hts _ wc_yJ9_max_7cf53) (Nat.le_of_ble_eq_true hroom.1) (Nat.le_of_ble_eq_true hroom.2.1) (Nat.le_of_ble_eq_true hroom.2.2.1) (Nat.le_of_ble_eq_true hroom.2.2.2) hdg ?_
    have em : (if iI a < iI b then iI b else iI a) = iI (max a b) := by
      by_cases h : a < b
      · rw [if_pos ((iI_lt ra rb).mpr h)]; exact congrArg iI (by omega)
      · rw [if_neg (fun q => h ((iI_lt ra rb).mp q))]; exact congrArg iI (by omega)
    rw [em]
    exact (kk p l e s m args below meth c A C H locs ls hl hP hD hS)
theorem j_min {E : jD} {Y : jY} {Z : jZ} {k n pc : Nat} {lv : List (Nat × Value)} {st : List Value} {M : va_W} (pc' : Nat) {idx : Nat} {a b : Int} (h1 : Cond.methodLink Y.1.cls idx Lib.Math.min.name ∈ jT) (hdg : decode Y.2.1 pc = .ok (.invokestatic idx, 3)) (ra : jr a) (rb : jr b) (hroom : (Nat.ble 1 Z.1.frames && (Nat.ble ((st.map fun v => v.category).sum + 13) Z.1.locals && (Nat.ble k Z.1.cells && Nat.ble n Z.1.slots))) = true) (kk : J E Y Z k n pc' lv (.int (iI (min a b)) :: st) M) (hpc : pc + 3 = pc' := by rfl) : J E Y Z k n pc lv (.int (iI b) :: .int (iI a) :: st) M := by
  subst hpc
  intro p l e s m args below meth c A C H locs ls hl hP hD hS
  obtain ⟨hx, hb, hml, hr, hlk, ho, hnm, hts, hK, hA, hX⟩ := id C
  exact by
    simp only [Bool.and_eq_true] at hroom
    refine va_mmin hx hb (hml.trans hl.1.symm) ho (hts _ h1) (hts _ wst_yJ9_min_7cf53) (hts _ wi_java_lang_Math) (hts _ wc_yJ9_min_7cf53) (Nat.le_of_ble_eq_true hroom.1) (Nat.le_of_ble_eq_true hroom.2.1) (Nat.le_of_ble_eq_true hroom.2.2.1) (Nat.le_of_ble_eq_true hroom.2.2.2) hdg ?_
    have em : (if iI b < iI a then iI b else iI a) = iI (min a b) := by
      by_cases h : b < a
      · rw [if_pos ((iI_lt rb ra).mpr h)]; exact congrArg iI (by omega)
      · rw [if_neg (fun q => h ((iI_lt rb ra).mp q))]; exact congrArg iI (by omega)
    rw [em]
    exact (kk p l e s m args below meth c A C H locs ls hl hP hD hS)
theorem j_copy {E : jD} {Y : jY} {Z : jZ} {k n pc : Nat} {lv : List (Nat × Value)} {st : List Value} {M : va_W} (pc' q0 q1 i j w : Nat) {idx a0 a N0 N1 : Nat} {f g : Nat → Int32} {sp dp z : Int} (h1 : Cond.methodLink Y.1.cls idx arraycopyName ∈ jT) (hdg : decode Y.2.1 pc = .ok (.invokestatic idx, 3)) (he0 : M[q0]? = some (a0, jA E N0 f)) (he1 : M[q1]? = some (a, jA E N1 g)) (hN : (Nat.blt N0 2147483648 && Nat.blt N1 2147483648) = true) (hi : sp = (i : Int)) (hj : dp = (j : Int)) (hw : z = (w : Int)) (hi2 : i + w ≤ N0) (hj2 : j + w ≤ N1) (hroom : (Nat.ble 1 Z.1.frames && Nat.ble ((st.map fun v => v.category).sum + (nativeFrameWords "java/lang/System" "arraycopy" 5 + 11)) Z.1.locals) = true) (kk : J E Y Z k n pc' lv st (M.set q1 (a, jA E N1 (va_cpy f g i j w)))) (hpc : pc + 3 = pc' := by rfl) : J E Y Z k n pc lv (.int (iI z) :: .int (iI dp) :: .ref a :: .int (iI sp) :: .ref a0 :: st) M := by
  subst hpc
  subst hi; subst hj; subst hw
  intro p l e s m args below meth c A C H locs ls hl hP hD hS
  obtain ⟨hx, hb, hml, hr, hlk, ho, hnm, hts, hK, hA, hX⟩ := id C
  rw [Bool.and_eq_true] at hroom hN
  have hN0 := Nat.le_of_ble_eq_true hN.1
  have hN1 := Nat.le_of_ble_eq_true hN.2
  have nn : ∀ x : Nat, x < 2147483648 → ¬ iI (x : Int) < 0 := fun x hx0 => by rw [← iI_0, iI_lt ⟨by omega, by omega⟩ jr_0]; omega
  have ci : (iI (i : Int)).toNatClampNeg = i := iI_clamp (by omega)
  have cj : (iI (j : Int)).toNatClampNeg = j := iI_clamp (by omega)
  have cw : (iI (w : Int)).toNatClampNeg = w := iI_clamp (by omega)
  refine va_copyi (ty := .int) hx hb (hml.trans hl.1.symm) ho (hts _ h1) (hts _ wna_arraycopyName) (hts _ wst_arraycopyName) (hts _ wi_java_lang_System) hK.1 hP hD hS q0 q1 0 0 he0 he1 rfl rfl rfl (nn i (by omega)) (nn j (by omega)) (nn w (by omega)) (by rw [ci, cw]; exact hi2) (by rw [cj, cw]; exact hj2) (fun _ _ => rfl) (Nat.le_of_ble_eq_true hroom.1) (Nat.le_of_ble_eq_true hroom.2) hdg (fun H1 locs1 hP1 hD1 hS1 => ?_)
  rw [ci, cj, cw] at hP1 hD1
  exact kk p l e s m args below meth c A C H1 locs1 ls hl hP1 hD1 hS1
