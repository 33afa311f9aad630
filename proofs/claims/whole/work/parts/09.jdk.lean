set_option maxRecDepth 100000 in
set_option maxHeartbeats 4000000 in
theorem lp_fillI (E : jD) (a n : Nat) (f : Nat → Int32) (v : Int32) (hn : n < 65536) : ∀ d k, n - k = d → k ≤ n → J E Y_J7_fill_53178 (jZm E Y_J7_fill_53178 (fun r N0 => r = none ∧ N0 = [(a, jA E n (fa v n f))])) 0 0 5 [(0, .ref a), (1, .int v), (2, .int (iI (k : Int))), (3, .int (iI (n : Int)))] [] [(a, jA E n (fa v k f))] := by
  intro d
  induction d with
  | zero =>
    intro k hd hk
    refine j_iload_2 6 dJ7_fill_53178_5 rfl ?_
    refine j_iload_3 7 dJ7_fill_53178_6 rfl ?_
    refine j_icmp_ge 20 10 dJ7_fill_53178_7 (by first | exact iI_rng _ | exact bI_r _ | exact ⟨by omega, by omega⟩) (by first | exact iI_rng _ | exact bI_r _ | exact ⟨by omega, by omega⟩) (fun h7 => ?_) (fun h7 => ?_)
    · exact j_vret dJ7_fill_53178_20 rfl rfl ⟨rfl, by rw [show k = n by omega]⟩
    · omega
  | succ d ih =>
    intro k hd hk
    refine j_iload_2 6 dJ7_fill_53178_5 rfl ?_
    refine j_iload_3 7 dJ7_fill_53178_6 rfl ?_
    refine j_icmp_ge 20 10 dJ7_fill_53178_7 (by first | exact iI_rng _ | exact bI_r _ | exact ⟨by omega, by omega⟩) (by first | exact iI_rng _ | exact bI_r _ | exact ⟨by omega, by omega⟩) (fun h7 => ?_) (fun h7 => ?_)
    · omega
    · refine j_aload_0 11 dJ7_fill_53178_10 rfl ?_
      refine j_iload_2 12 dJ7_fill_53178_11 rfl ?_
      refine j_iload_1 13 dJ7_fill_53178_12 rfl ?_
      refine j_iast 14 0 _ dJ7_fill_53178_13 rfl (Nat.ble_eq_true_of_le (by omega)) rfl (by omega) ?_
      refine j_iinc 17 (lv' := [(0, _), (1, _), (2, _), (3, _)]) dJ7_fill_53178_14 rfl rfl ⟨rfl, rfl⟩ ?_
      refine j_goto 5 dJ7_fill_53178_17 ?_
      exact j_eqM (congrArg (fun g => [(a, jA E n g)]) (fa_s v k f)) (ih (k + 1) (by omega) (by omega))

set_option maxRecDepth 100000 in
set_option maxHeartbeats 4000000 in
theorem c_J7_fill_53178 (E : jD) (a n : Nat) (f : Nat → Int32) (v : Int32) (hn : n < 65536) : MC E Y_J7_fill_53178 [.ref a, .int v] [(a, jA E n f)] (fun r N0 => r = none ∧ N0 = [(a, jA E n (fa v n f))]) := by
  refine MC.of (by decide) rfl rfl ?_
  refine j_iconst 1 dJ7_fill_53178_0 ?_
  refine j_istore_2 2 (lv' := [(0, _), (1, _), (2, _)]) dJ7_fill_53178_1 rfl ⟨rfl, rfl⟩ ?_
  refine j_aload_0 3 dJ7_fill_53178_2 rfl ?_
  refine j_alen 4 0 dJ7_fill_53178_3 rfl ?_
  refine j_istore_3 5 (lv' := [(0, _), (1, _), (2, _), (3, _)]) dJ7_fill_53178_4 rfl ⟨rfl, rfl⟩ ?_
  exact j_eqM (congrArg (fun g => [(a, jA E n g)]) (fa_0 v f).symm) (lp_fillI E a n f v hn n 0 (by omega) (by omega))

set_option maxRecDepth 100000 in
set_option maxHeartbeats 4000000 in
theorem lp_fillJ (E : jD) (a n : Nat) (f : Nat → Int64) (v : Int64) (hn : n < 65536) : ∀ d k, n - k = d → k ≤ n → J E Y_J7_fill_d0a16 (jZm E Y_J7_fill_d0a16 (fun r N0 => r = none ∧ N0 = [(a, jL E n (fa v n f))])) 0 0 6 [(0, .ref a), (1, .long v), (3, .int (iI (k : Int))), (4, .int (iI (n : Int)))] [] [(a, jL E n (fa v k f))] := by
  intro d
  induction d with
  | zero =>
    intro k hd hk
    refine j_iload_3 7 dJ7_fill_d0a16_6 rfl ?_
    refine j_iload 9 dJ7_fill_d0a16_7 rfl ?_
    refine j_icmp_ge 22 12 dJ7_fill_d0a16_9 (by first | exact iI_rng _ | exact bI_r _ | exact ⟨by omega, by omega⟩) (by first | exact iI_rng _ | exact bI_r _ | exact ⟨by omega, by omega⟩) (fun h9 => ?_) (fun h9 => ?_)
    · exact j_vret dJ7_fill_d0a16_22 rfl rfl ⟨rfl, by rw [show k = n by omega]⟩
    · omega
  | succ d ih =>
    intro k hd hk
    refine j_iload_3 7 dJ7_fill_d0a16_6 rfl ?_
    refine j_iload 9 dJ7_fill_d0a16_7 rfl ?_
    refine j_icmp_ge 22 12 dJ7_fill_d0a16_9 (by first | exact iI_rng _ | exact bI_r _ | exact ⟨by omega, by omega⟩) (by first | exact iI_rng _ | exact bI_r _ | exact ⟨by omega, by omega⟩) (fun h9 => ?_) (fun h9 => ?_)
    · omega
    · refine j_aload_0 13 dJ7_fill_d0a16_12 rfl ?_
      refine j_iload_3 14 dJ7_fill_d0a16_13 rfl ?_
      refine j_lload_1 15 dJ7_fill_d0a16_14 rfl ?_
      refine j_last 16 0 _ dJ7_fill_d0a16_15 rfl (Nat.ble_eq_true_of_le (by omega)) rfl (by omega) ?_
      refine j_iinc 19 (lv' := [(0, _), (1, _), (3, _), (4, _)]) dJ7_fill_d0a16_16 rfl rfl ⟨rfl, rfl⟩ ?_
      refine j_goto 6 dJ7_fill_d0a16_19 ?_
      exact j_eqM (congrArg (fun g => [(a, jL E n g)]) (fa_sL v k f)) (ih (k + 1) (by omega) (by omega))

set_option maxRecDepth 100000 in
set_option maxHeartbeats 4000000 in
theorem c_J7_fill_d0a16 (E : jD) (a n : Nat) (f : Nat → Int64) (v : Int64) (hn : n < 65536) : MC E Y_J7_fill_d0a16 [.ref a, .long v] [(a, jL E n f)] (fun r N0 => r = none ∧ N0 = [(a, jL E n (fa v n f))]) := by
  refine MC.of (by decide) rfl rfl ?_
  refine j_iconst 1 dJ7_fill_d0a16_0 ?_
  refine j_istore_3 2 (lv' := [(0, _), (1, _), (3, _)]) dJ7_fill_d0a16_1 rfl ⟨rfl, rfl⟩ ?_
  refine j_aload_0 3 dJ7_fill_d0a16_2 rfl ?_
  refine j_alenL 4 0 dJ7_fill_d0a16_3 rfl ?_
  refine j_istore 6 (lv' := [(0, _), (1, _), (3, _), (4, _)]) dJ7_fill_d0a16_4 rfl ⟨rfl, rfl⟩ ?_
  exact j_eqM (congrArg (fun g => [(a, jL E n g)]) (fa_0 v f).symm) (lp_fillJ E a n f v hn n 0 (by omega) (by omega))

def us (x y : Int32) : Int32 := (x.toUInt32 >>> (y.toUInt32 &&& Int32.toUInt32 31)).toInt32
def bcX (x0 : Int32) : Int32 :=
  let x1 := x0 - (us x0 (iI 1) &&& 1431655765)
  let x2 := (x1 &&& 858993459) + (us x1 (iI 2) &&& 858993459)
  let x3 := (x2 + us x2 (iI 4)) &&& 252645135
  let x4 := x3 + us x3 (iI 8)
  let x5 := x4 + us x4 (iI 16)
  x5 &&& iI 63

set_option maxRecDepth 100000 in
set_option maxHeartbeats 4000000 in
theorem c_J6_bitCount_0f7a4 (E : jD) (x : Int32)  : MC E Y_J6_bitCount_0f7a4 [.int x] [] (fun r N0 => r = some (.int (bcX x)) ∧ N0 = []) := by
  refine MC.of (by decide) rfl rfl ?_
  refine j_iload_0 1 dJ6_bitCount_0f7a4_0 rfl ?_
  refine j_iload_0 2 dJ6_bitCount_0f7a4_1 rfl ?_
  refine j_iconst 3 dJ6_bitCount_0f7a4_2 ?_
  refine j_iushr 4 dJ6_bitCount_0f7a4_3 ?_
  refine j_ldcw 7 wk_J6_265 dJ6_bitCount_0f7a4_4 ?_
  refine j_iand 8 dJ6_bitCount_0f7a4_7 ?_
  refine j_isubx 9 dJ6_bitCount_0f7a4_8 ?_
  refine j_istore_0 10 (lv' := [(0, _)]) dJ6_bitCount_0f7a4_9 rfl ⟨rfl, rfl⟩ ?_
  refine j_iload_0 11 dJ6_bitCount_0f7a4_10 rfl ?_
  refine j_ldcw 14 wk_J6_266 dJ6_bitCount_0f7a4_11 ?_
  refine j_iand 15 dJ6_bitCount_0f7a4_14 ?_
  refine j_iload_0 16 dJ6_bitCount_0f7a4_15 rfl ?_
  refine j_iconst 17 dJ6_bitCount_0f7a4_16 ?_
  refine j_iushr 18 dJ6_bitCount_0f7a4_17 ?_
  refine j_ldcw 21 wk_J6_266 dJ6_bitCount_0f7a4_18 ?_
  refine j_iand 22 dJ6_bitCount_0f7a4_21 ?_
  refine j_iaddx 23 dJ6_bitCount_0f7a4_22 ?_
  refine j_istore_0 24 (lv' := [(0, _)]) dJ6_bitCount_0f7a4_23 rfl ⟨rfl, rfl⟩ ?_
  refine j_iload_0 25 dJ6_bitCount_0f7a4_24 rfl ?_
  refine j_iload_0 26 dJ6_bitCount_0f7a4_25 rfl ?_
  refine j_iconst 27 dJ6_bitCount_0f7a4_26 ?_
  refine j_iushr 28 dJ6_bitCount_0f7a4_27 ?_
  refine j_iaddx 29 dJ6_bitCount_0f7a4_28 ?_
  refine j_ldcw 32 wk_J6_267 dJ6_bitCount_0f7a4_29 ?_
  refine j_iand 33 dJ6_bitCount_0f7a4_32 ?_
  refine j_istore_0 34 (lv' := [(0, _)]) dJ6_bitCount_0f7a4_33 rfl ⟨rfl, rfl⟩ ?_
  refine j_iload_0 35 dJ6_bitCount_0f7a4_34 rfl ?_
  refine j_iload_0 36 dJ6_bitCount_0f7a4_35 rfl ?_
  refine j_bipush 38 dJ6_bitCount_0f7a4_36 (by decide +kernel) ?_
  refine j_iushr 39 dJ6_bitCount_0f7a4_38 ?_
  refine j_iaddx 40 dJ6_bitCount_0f7a4_39 ?_
  refine j_istore_0 41 (lv' := [(0, _)]) dJ6_bitCount_0f7a4_40 rfl ⟨rfl, rfl⟩ ?_
  refine j_iload_0 42 dJ6_bitCount_0f7a4_41 rfl ?_
  refine j_iload_0 43 dJ6_bitCount_0f7a4_42 rfl ?_
  refine j_bipush 45 dJ6_bitCount_0f7a4_43 (by decide +kernel) ?_
  refine j_iushr 46 dJ6_bitCount_0f7a4_45 ?_
  refine j_iaddx 47 dJ6_bitCount_0f7a4_46 ?_
  refine j_istore_0 48 (lv' := [(0, _)]) dJ6_bitCount_0f7a4_47 rfl ⟨rfl, rfl⟩ ?_
  refine j_iload_0 49 dJ6_bitCount_0f7a4_48 rfl ?_
  refine j_bipush 51 dJ6_bitCount_0f7a4_49 (by decide +kernel) ?_
  refine j_iand 52 dJ6_bitCount_0f7a4_51 ?_
  exact j_iret dJ6_bitCount_0f7a4_52 rfl rfl ⟨rfl, rfl⟩
