set_option maxRecDepth 100000 in
set_option maxHeartbeats 4000000 in
theorem c_X4_isMissing (E : jD) (a b : Nat) (N : Int) (hN : jr N) : MC E Y_X4_isMissing [.ref a] [(a, jO 4 [.ref b, .int (iI N)])] (fun r N0 => r = some (.int (iI (bI (N < 0)))) ∧ N0 = [(a, jO 4 [.ref b, .int (iI N)])]) := by
  refine MC.of (by decide) rfl rfl ?_
  refine j_aload_0 1 dX4_isMissing_0 rfl ?_
  refine j_get 4 0 gf_X4_15 dX4_isMissing_1 rfl rfl ?_
  refine j_if_ge 11 7 dX4_isMissing_4 (by first | exact iI_rng _ | exact bI_r _ | exact ⟨by omega, by omega⟩) (fun h4 => ?_) (fun h4 => ?_)
  · refine j_iconst 12 dX4_isMissing_11 ?_
    exact j_zret (by first | exact bI_n _ | decide +kernel) dX4_isMissing_12 rfl rfl ⟨congrArg (fun z => some (Value.int (iI z))) (by first | exact (bI_t (by omega)).symm | exact (bI_f (by omega)).symm), rfl⟩
  · refine j_iconst 8 dX4_isMissing_7 ?_
    refine j_goto 12 dX4_isMissing_8 ?_
    exact j_zret (by first | exact bI_n _ | decide +kernel) dX4_isMissing_12 rfl rfl ⟨congrArg (fun z => some (Value.int (iI z))) (by first | exact (bI_t (by omega)).symm | exact (bI_f (by omega)).symm), rfl⟩

set_option maxRecDepth 100000 in
set_option maxHeartbeats 4000000 in
theorem c_X4_lacks (E : jD) (a b : Nat) (N : Int) (i : Int) (hN : jr N) (hi : jr i) : MC E Y_X4_lacks [.ref a, .int (iI i)] [(a, jO 4 [.ref b, .int (iI N)])] (fun r N0 => r = some (.int (iI (bI (i < 0 ∨ N ≤ i)))) ∧ N0 = [(a, jO 4 [.ref b, .int (iI N)])]) := by
  refine MC.of (by decide) rfl rfl ?_
  refine j_iload_1 1 dX4_lacks_0 rfl ?_
  refine j_if_lt 12 4 dX4_lacks_1 (by first | exact iI_rng _ | exact bI_r _ | exact ⟨by omega, by omega⟩) (fun h1 => ?_) (fun h1 => ?_)
  · refine j_iconst 13 dX4_lacks_12 ?_
    refine j_goto 17 dX4_lacks_13 ?_
    exact j_zret (by first | exact bI_n _ | decide +kernel) dX4_lacks_17 rfl rfl ⟨congrArg (fun z => some (Value.int (iI z))) (by first | exact (bI_t (by omega)).symm | exact (bI_f (by omega)).symm), rfl⟩
  · refine j_iload_1 5 dX4_lacks_4 rfl ?_
    refine j_aload_0 6 dX4_lacks_5 rfl ?_
    refine j_get 9 0 gf_X4_15 dX4_lacks_6 rfl rfl ?_
    refine j_icmp_lt 16 12 dX4_lacks_9 (by first | exact iI_rng _ | exact bI_r _ | exact ⟨by omega, by omega⟩) (by first | exact iI_rng _ | exact bI_r _ | exact ⟨by omega, by omega⟩) (fun h9 => ?_) (fun h9 => ?_)
    · refine j_iconst 17 dX4_lacks_16 ?_
      exact j_zret (by first | exact bI_n _ | decide +kernel) dX4_lacks_17 rfl rfl ⟨congrArg (fun z => some (Value.int (iI z))) (by first | exact (bI_t (by omega)).symm | exact (bI_f (by omega)).symm), rfl⟩
    · refine j_iconst 13 dX4_lacks_12 ?_
      refine j_goto 17 dX4_lacks_13 ?_
      exact j_zret (by first | exact bI_n _ | decide +kernel) dX4_lacks_17 rfl rfl ⟨congrArg (fun z => some (Value.int (iI z))) (by first | exact (bI_t (by omega)).symm | exact (bI_f (by omega)).symm), rfl⟩

set_option maxRecDepth 100000 in
set_option maxHeartbeats 4000000 in
theorem c_X4_lacksSome (E : jD) (a b : Nat) (N : Int) (i n : Int) (hN : -1 ≤ N ∧ N ≤ 48) (hi : jr i) (hn : jr n) : MC E Y_X4_lacksSome [.ref a, .int (iI i), .int (iI n)] [(a, jO 4 [.ref b, .int (iI N)])] (fun r N0 => r = some (.int (iI (bI (i < 0 ∨ n < 0 ∨ N - i < n)))) ∧ N0 = [(a, jO 4 [.ref b, .int (iI N)])]) := by
  refine MC.of (by decide) rfl rfl ?_
  refine j_iload_1 1 dX4_lacksSome_0 rfl ?_
  refine j_if_lt 18 4 dX4_lacksSome_1 (by first | exact iI_rng _ | exact bI_r _ | exact ⟨by omega, by omega⟩) (fun h1 => ?_) (fun h1 => ?_)
  · refine j_iconst 19 dX4_lacksSome_18 ?_
    refine j_goto 23 dX4_lacksSome_19 ?_
    exact j_zret (by first | exact bI_n _ | decide +kernel) dX4_lacksSome_23 rfl rfl ⟨congrArg (fun z => some (Value.int (iI z))) (by first | exact (bI_t (by omega)).symm | exact (bI_f (by omega)).symm), rfl⟩
  · refine j_iload_2 5 dX4_lacksSome_4 rfl ?_
    refine j_if_lt 18 8 dX4_lacksSome_5 (by first | exact iI_rng _ | exact bI_r _ | exact ⟨by omega, by omega⟩) (fun h5 => ?_) (fun h5 => ?_)
    · refine j_iconst 19 dX4_lacksSome_18 ?_
      refine j_goto 23 dX4_lacksSome_19 ?_
      exact j_zret (by first | exact bI_n _ | decide +kernel) dX4_lacksSome_23 rfl rfl ⟨congrArg (fun z => some (Value.int (iI z))) (by first | exact (bI_t (by omega)).symm | exact (bI_f (by omega)).symm), rfl⟩
    · refine j_iload_2 9 dX4_lacksSome_8 rfl ?_
      refine j_aload_0 10 dX4_lacksSome_9 rfl ?_
      refine j_get 13 0 gf_X4_15 dX4_lacksSome_10 rfl rfl ?_
      refine j_iload_1 14 dX4_lacksSome_13 rfl ?_
      refine j_isub 15 dX4_lacksSome_14 ?_
      refine j_icmp_le 22 18 dX4_lacksSome_15 (by first | exact iI_rng _ | exact bI_r _ | exact ⟨by omega, by omega⟩) (by first | exact iI_rng _ | exact bI_r _ | exact ⟨by omega, by omega⟩) (fun h15 => ?_) (fun h15 => ?_)
      · refine j_iconst 23 dX4_lacksSome_22 ?_
        exact j_zret (by first | exact bI_n _ | decide +kernel) dX4_lacksSome_23 rfl rfl ⟨congrArg (fun z => some (Value.int (iI z))) (by first | exact (bI_t (by omega)).symm | exact (bI_f (by omega)).symm), rfl⟩
      · refine j_iconst 19 dX4_lacksSome_18 ?_
        refine j_goto 23 dX4_lacksSome_19 ?_
        exact j_zret (by first | exact bI_n _ | decide +kernel) dX4_lacksSome_23 rfl rfl ⟨congrArg (fun z => some (Value.int (iI z))) (by first | exact (bI_t (by omega)).symm | exact (bI_f (by omega)).symm), rfl⟩

set_option maxRecDepth 100000 in
set_option maxHeartbeats 4000000 in
theorem c_X4_becomeZeros (E : jD) (a b : Nat) (N : Int) (f : Nat → Int32) (n : Int)  : MC E Y_X4_becomeZeros [.ref a, .int (iI n)] [(a, jO 4 [.ref b, .int (iI N)]), (b, jA E 48 f)] (fun r N0 => r = none ∧ N0 = [(a, jO 4 [.ref b, .int (iI n)]), (b, jA E 48 (fa (iI 0) 48 f))]) := by
  refine MC.of (by decide) rfl rfl ?_
  refine j_aload_0 1 dX4_becomeZeros_0 rfl ?_
  refine j_get 4 0 gf_X4_9 dX4_becomeZeros_1 rfl rfl ?_
  refine j_iconst 5 dX4_becomeZeros_4 ?_
  refine j_callS 8 Y_J7_fill_53178 [1] [_, _] (c_J7_fill_53178 E _ _ _ _ (by decide)) m_J7_fill_53178 wml_X4_19 dX4_becomeZeros_5 rfl rfl rfl rfl rfl rfl (fun r N h => by obtain ⟨rfl, rfl⟩ := h; rfl) (fun r N h => ?_)
  obtain ⟨rfl, rfl⟩ := h
  refine j_aload_0 9 dX4_becomeZeros_8 rfl ?_
  refine j_iload_1 10 dX4_becomeZeros_9 rfl ?_
  refine j_put 13 0 pf_X4_15 dX4_becomeZeros_10 rfl ⟨rfl, rfl, rfl⟩ ?_
  exact j_vret dX4_becomeZeros_13 rfl rfl ⟨rfl, rfl⟩

set_option maxRecDepth 100000 in
set_option maxHeartbeats 4000000 in
theorem c_X4_become (E : jD) (a b : Nat) (N : Int) (f : Nat → Int32) (a2 b2 : Nat) (N2 : Int) (f2 : Nat → Int32)  : MC E Y_X4_become [.ref a, .ref a2] [(a, jO 4 [.ref b, .int (iI N)]), (b, jA E 48 f), (a2, jO 4 [.ref b2, .int (iI N2)]), (b2, jA E 48 f2)] (fun r N0 => r = none ∧ N0 = [(a, jO 4 [.ref b, .int (iI N2)]), (b, jA E 48 (va_cpy f2 f 0 0 48)), (a2, jO 4 [.ref b2, .int (iI N2)]), (b2, jA E 48 f2)]) := by
  refine MC.of (by decide) rfl rfl ?_
  refine j_aload_1 1 dX4_become_0 rfl ?_
  refine j_get 4 2 gf_X4_9 dX4_become_1 rfl rfl ?_
  refine j_iconst 5 dX4_become_4 ?_
  refine j_aload_0 6 dX4_become_5 rfl ?_
  refine j_get 9 0 gf_X4_9 dX4_become_6 rfl rfl ?_
  refine j_iconst 10 dX4_become_9 ?_
  refine j_bipush 12 dX4_become_10 (by decide +kernel) ?_
  refine j_copy 15 3 1 0 0 48 wml_X4_25 dX4_become_12 rfl rfl rfl rfl rfl rfl (by omega) (by omega) rfl ?_
  refine j_aload_0 16 dX4_become_15 rfl ?_
  refine j_aload_1 17 dX4_become_16 rfl ?_
  refine j_get 20 2 gf_X4_15 dX4_become_17 rfl rfl ?_
  refine j_put 23 0 pf_X4_15 dX4_become_20 rfl ⟨rfl, rfl, rfl⟩ ?_
  exact j_vret dX4_become_23 rfl rfl ⟨rfl, rfl⟩

set_option maxRecDepth 100000 in
set_option maxHeartbeats 4000000 in
theorem lp_digestOn (E : jD) (a b : Nat) (n : Nat) (f : Nat → Int32) (h : Int64) (hn : n ≤ 48) : ∀ (d : Nat) (k : Nat), n - k < d → k ≤ n → J E Y_X4_digestOn (jZm E Y_X4_digestOn (fun r N0 => r = some (.long (dgF h f n)) ∧ N0 = [(a, jO 4 [.ref b, .int (iI (n : Int))]), (b, jA E 48 f)])) 0 0 5 [(0, .ref a), (1, .long h), (3, .long (dgF h f k)), (5, .int (iI (k : Int)))] [] [(a, jO 4 [.ref b, .int (iI (n : Int))]), (b, jA E 48 f)] := by
  intro d
  induction d with
  | zero => intros; omega
  | succ d ih =>
    intro k hd hk
    refine j_iload 7 dX4_digestOn_5 rfl ?_
    refine j_aload_0 8 dX4_digestOn_7 rfl ?_
    refine j_get 11 0 gf_X4_15 dX4_digestOn_8 rfl rfl ?_
    refine j_icmp_ge 35 14 dX4_digestOn_11 (by first | exact iI_rng _ | exact bI_r _ | exact ⟨by omega, by omega⟩) (by first | exact iI_rng _ | exact bI_r _ | exact ⟨by omega, by omega⟩) (fun h11 => ?_) (fun h11 => ?_)
    · have e : k = n := by omega
      subst e
      refine j_lload_3 36 dX4_digestOn_35 rfl ?_
      exact j_lret dX4_digestOn_36 rfl rfl ⟨rfl, rfl⟩
    · refine j_ldc2 17 wk_X4_31 dX4_digestOn_14 ?_
      refine j_lload_3 18 dX4_digestOn_17 rfl ?_
      refine j_lmul 19 dX4_digestOn_18 ?_
      refine j_aload_0 20 dX4_digestOn_19 rfl ?_
      refine j_get 23 0 gf_X4_9 dX4_digestOn_20 rfl rfl ?_
      refine j_iload 25 dX4_digestOn_23 rfl ?_
      refine j_ialdx 26 1 _ dX4_digestOn_25 rfl rfl rfl (by omega) ?_
      refine j_i2l 27 dX4_digestOn_26 ?_
      refine j_ladd 28 dX4_digestOn_27 ?_
      refine j_lstore_3 29 (lv' := [(0, _), (1, _), (3, _), (5, _)]) dX4_digestOn_28 rfl ⟨rfl, rfl, rfl⟩ ?_
      refine j_iinc 32 (lv' := [(0, _), (1, _), (3, _), (5, _)]) dX4_digestOn_29 rfl rfl ⟨rfl, rfl⟩ ?_
      refine j_goto 5 dX4_digestOn_32 ?_
      exact ih (k + 1) (by omega) (by omega)

set_option maxRecDepth 100000 in
set_option maxHeartbeats 4000000 in
theorem c_X4_digestOn (E : jD) (a b : Nat) (n : Nat) (f : Nat → Int32) (h : Int64) (hn : n ≤ 48)  : MC E Y_X4_digestOn [.ref a, .long h] [(a, jO 4 [.ref b, .int (iI (n : Int))]), (b, jA E 48 f)] (fun r N0 => r = some (.long (dgF h f n)) ∧ N0 = [(a, jO 4 [.ref b, .int (iI (n : Int))]), (b, jA E 48 f)]) := by
  refine MC.of (by decide) rfl rfl ?_
  refine j_lload_1 1 dX4_digestOn_0 rfl ?_
  refine j_lstore_3 2 (lv' := [(0, _), (1, _), (3, _)]) dX4_digestOn_1 rfl ⟨rfl, rfl, rfl⟩ ?_
  refine j_iconst 3 dX4_digestOn_2 ?_
  refine j_istore 5 (lv' := [(0, _), (1, _), (3, _), (5, _)]) dX4_digestOn_3 rfl ⟨rfl, rfl⟩ ?_
  exact lp_digestOn E a b n f h hn (n + 1) 0 (by omega) (by omega)

set_option maxRecDepth 100000 in
set_option maxHeartbeats 4000000 in
theorem c_X4_digestOn_m (E : jD) (a b : Nat) (f : Nat → Int32) (h : Int64)  : MC E Y_X4_digestOn [.ref a, .long h] [(a, jO 4 [.ref b, .int (iI (-1))]), (b, jA E 48 f)] (fun r N0 => r = some (.long (h)) ∧ N0 = [(a, jO 4 [.ref b, .int (iI (-1))]), (b, jA E 48 f)]) := by
  refine MC.of (by decide) rfl rfl ?_
  refine j_lload_1 1 dX4_digestOn_0 rfl ?_
  refine j_lstore_3 2 (lv' := [(0, _), (1, _), (3, _)]) dX4_digestOn_1 rfl ⟨rfl, rfl, rfl⟩ ?_
  refine j_iconst 3 dX4_digestOn_2 ?_
  refine j_istore 5 (lv' := [(0, _), (1, _), (3, _), (5, _)]) dX4_digestOn_3 rfl ⟨rfl, rfl⟩ ?_
  refine j_iload 7 dX4_digestOn_5 rfl ?_
  refine j_aload_0 8 dX4_digestOn_7 rfl ?_
  refine j_get 11 0 gf_X4_15 dX4_digestOn_8 rfl rfl ?_
  refine j_icmp_ge 35 14 dX4_digestOn_11 (by first | exact iI_rng _ | exact bI_r _ | exact ⟨by omega, by omega⟩) (by first | exact iI_rng _ | exact bI_r _ | exact ⟨by omega, by omega⟩) (fun h11 => ?_) (fun h11 => ?_)
  · refine j_lload_3 36 dX4_digestOn_35 rfl ?_
    exact j_lret dX4_digestOn_36 rfl rfl ⟨rfl, rfl⟩
  · omega

set_option maxRecDepth 100000 in
set_option maxHeartbeats 4000000 in
theorem c_X4_init (E : jD) (a : Nat)  : MC E Y_X4_init [.ref a] [(a, jO 4 [.null, .int 0])] (fun r N0 => ∃ b, r = none ∧ N0 = [(a, jO 4 [.ref b, .int (iI (-1))]), (b, jA E 48 (fun _ => 0))]) := by
  refine MC.of (by decide) rfl rfl ?_
  refine j_aload_0 1 dX4_init_0 rfl ?_
  refine j_obj 4 wml_X4_3 dX4_init_1 rfl ?_
  refine j_aload_0 5 dX4_init_4 rfl ?_
  refine j_bipush 7 dX4_init_5 (by decide +kernel) ?_
  refine j_newa 9 48 rfl rfl dX4_init_7 rfl (fun b => ?_)
  refine j_putF 12 0 pf_X4_9 rfl rfl dX4_init_9 rfl ⟨rfl, rfl, rfl⟩ ?_
  refine j_aload_0 13 dX4_init_12 rfl ?_
  refine j_iconst 14 dX4_init_13 ?_
  refine j_put 17 0 pf_X4_15 dX4_init_14 rfl ⟨rfl, rfl, rfl⟩ ?_
  exact j_vret dX4_init_17 rfl rfl ⟨b, rfl, rfl⟩
