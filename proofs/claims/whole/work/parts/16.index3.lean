theorem c_X5_include (E : jD) (a b : Nat) (m : Int) (w : Nat → Int64) (s : Nat) (hs : s < 4096) : MC E Y_X5_include [.ref a, .int (iI (s : Int))] [(a, jO 5 [.ref b, .int (iI m)]), (b, jL E 64 w)] (fun r N0 => r = none ∧ N0 = [(a, jO 5 [.ref b, .int (iI (inM w m s))]), (b, jL E 64 (inW w s))]) := by
  unfold inM inW
  cases hw : wB w s with
  | true =>
    rw [if_pos rfl, if_pos rfl]
    exact c_X5_include_y E a b m w s hs hw
  | false =>
    rw [if_neg (by decide), if_neg (by decide)]
    exact c_X5_include_n E a b m w s hs hw

set_option maxRecDepth 100000 in
set_option maxHeartbeats 4000000 in
theorem lp_unlike_in (E : jD) (x0 x1 x3 x4 x6 : Nat) (wd : Int) (nb : Nat) (sh : Nat → Int32) (Z : jZ) (u b : Nat) (hb : b < 48) : ∀ (d : Nat) (k : Nat), b - k < d → (k ≤ b) → (J E Y_X3_unlikeShapes Z 0 0 40 [(0, .ref x0), (1, .int (iI (u : Int))), (2, .int (iI (b : Int))), (3, .int (iI ((saF (tI sh) b (b - k) k : Nat) : Int)))] [] [(x0, jO 3 [.ref x1, .ref x3, .ref x4, .ref x6, .int (iI wd), .int (iI (nb : Int))]), (x3, jA E 48 sh)]) → J E Y_X3_unlikeShapes Z 0 0 14 [(0, .ref x0), (1, .int (iI (u : Int))), (2, .int (iI (b : Int))), (3, .int (iI (k : Int)))] [] [(x0, jO 3 [.ref x1, .ref x3, .ref x4, .ref x6, .int (iI wd), .int (iI (nb : Int))]), (x3, jA E 48 sh)] := by
  intro d
  induction d with
  | zero => intros; omega
  | succ d ih =>
    intro k hd hk kk
    refine j_iload_3 15 dX3_unlikeShapes_14 rfl ?_
    refine j_iload_2 16 dX3_unlikeShapes_15 rfl ?_
    refine j_icmp_ge 40 19 dX3_unlikeShapes_16 (by first | exact iI_rng _ | exact bI_r _ | exact ⟨by omega, by omega⟩) (by first | exact iI_rng _ | exact bI_r _ | exact ⟨by omega, by omega⟩) (fun h16 => ?_) (fun h16 => ?_)
    · have e : saF (tI sh) b (b - k) k = k := by rw [show b - k = 0 by omega]; rfl
      rw [e] at kk
      exact kk
    · obtain ⟨c, hc⟩ : ∃ c, b - k = c + 1 := ⟨b - k - 1, by omega⟩
      rw [hc] at kk
      refine j_aload_0 20 dX3_unlikeShapes_19 rfl ?_
      refine j_get 23 0 gf_X3_18 dX3_unlikeShapes_20 rfl rfl ?_
      refine j_iload_3 24 dX3_unlikeShapes_23 rfl ?_
      refine j_iald 25 1 _ dX3_unlikeShapes_24 rfl rfl rfl (by omega) ?_
      refine j_aload_0 26 dX3_unlikeShapes_25 rfl ?_
      refine j_get 29 0 gf_X3_18 dX3_unlikeShapes_26 rfl rfl ?_
      refine j_iload_2 30 dX3_unlikeShapes_29 rfl ?_
      refine j_iald 31 1 _ dX3_unlikeShapes_30 rfl rfl rfl (by omega) ?_
      refine j_icmp_eq 40 34 dX3_unlikeShapes_31 (by first | exact iI_rng _ | exact bI_r _ | exact ⟨by omega, by omega⟩) (by first | exact iI_rng _ | exact bI_r _ | exact ⟨by omega, by omega⟩) (fun h31 => ?_) (fun h31 => ?_)
      · rw [show saF (tI sh) b (c + 1) k = k from if_pos h31] at kk
        exact kk
      · rw [show saF (tI sh) b (c + 1) k = saF (tI sh) b c (k + 1) from if_neg h31] at kk
        refine j_iinc 37 (lv' := [(0, _), (1, _), (2, _), (3, _)]) dX3_unlikeShapes_34 rfl rfl ⟨rfl, rfl⟩ ?_
        refine j_goto 14 dX3_unlikeShapes_37 ?_
        exact ih (k + 1) (by omega) (by omega) (by rw [show b - (k + 1) = c by omega]; exact kk)

set_option maxRecDepth 100000 in
set_option maxHeartbeats 4000000 in
theorem lp_unlike (E : jD) (x0 x1 x3 x4 x6 : Nat) (wd : Int) (nb : Nat) (sh : Nat → Int32) (hn : nb ≤ 48) : ∀ (d : Nat) (b : Nat), nb - b < d → (b ≤ nb) → J E Y_X3_unlikeShapes (jZm E Y_X3_unlikeShapes (fun r N0 => r = some (.int (iI ((unF (tI sh) nb : Nat)))) ∧ N0 = [(x0, jO 3 [.ref x1, .ref x3, .ref x4, .ref x6, .int (iI wd), .int (iI (nb : Int))]), (x3, jA E 48 sh)])) 0 0 4 [(0, .ref x0), (1, .int (iI ((unF (tI sh) b : Nat) : Int))), (2, .int (iI (b : Int)))] [] [(x0, jO 3 [.ref x1, .ref x3, .ref x4, .ref x6, .int (iI wd), .int (iI (nb : Int))]), (x3, jA E 48 sh)] := by
  intro d
  induction d with
  | zero => intros; omega
  | succ d ih =>
    intro b hd hb
    have hu := unF_le (tI sh) b
    refine j_iload_2 5 dX3_unlikeShapes_4 rfl ?_
    refine j_aload_0 6 dX3_unlikeShapes_5 rfl ?_
    refine j_get 9 0 gf_X3_36 dX3_unlikeShapes_6 rfl rfl ?_
    refine j_icmp_ge 54 12 dX3_unlikeShapes_9 (by first | exact iI_rng _ | exact bI_r _ | exact ⟨by omega, by omega⟩) (by first | exact iI_rng _ | exact bI_r _ | exact ⟨by omega, by omega⟩) (fun h9 => ?_) (fun h9 => ?_)
    · have e : b = nb := by omega
      subst e
      refine j_iload_1 55 dX3_unlikeShapes_54 rfl ?_
      exact j_iret dX3_unlikeShapes_55 rfl rfl ⟨rfl, rfl⟩
    · refine j_iconst 13 dX3_unlikeShapes_12 ?_
      refine j_istore_3 14 (lv' := [(0, _), (1, _), (2, _), (3, _)]) dX3_unlikeShapes_13 rfl ⟨rfl, rfl⟩ ?_
      refine lp_unlike_in E x0 x1 x3 x4 x6 wd nb sh _ (unF (tI sh) b) b (by omega) (b + 1) 0 (by omega) (by omega) ?_
      have hsa := saF_in (tI sh) b (b - 0) 0
      refine j_iload_3 41 dX3_unlikeShapes_40 rfl ?_
      refine j_iload_2 42 dX3_unlikeShapes_41 rfl ?_
      refine j_icmp_ne 48 45 dX3_unlikeShapes_42 (by first | exact iI_rng _ | exact bI_r _ | exact ⟨by omega, by omega⟩) (by first | exact iI_rng _ | exact bI_r _ | exact ⟨by omega, by omega⟩) (fun h42 => ?_) (fun h42 => ?_)
      · have e : unF (tI sh) (b + 1) = unF (tI sh) b := by
          show unF (tI sh) b + _ = _
          rw [if_neg (fun z => h42 (by rw [(saF_new (tI sh) b (b - 0) 0 (by omega)).mpr (fun j _ hj => z j hj)])), Nat.add_zero]
        refine j_iinc 51 (lv' := [(0, _), (1, _), (2, _), (3, _)]) dX3_unlikeShapes_48 rfl rfl ⟨rfl, rfl⟩ ?_
        refine j_goto 4 dX3_unlikeShapes_51 ?_
        refine j_take 3 ?_
        have h := ih (b + 1) (by omega) (by omega)
        rw [e] at h
        exact h
      · have e : unF (tI sh) (b + 1) = unF (tI sh) b + 1 := by
          show unF (tI sh) b + _ = _
          rw [if_pos (fun j hj => (saF_new (tI sh) b (b - 0) 0 (by omega)).mp (by omega) j (by omega) hj)]
        refine j_iinc 48 (lv' := [(0, _), (1, _), (2, _), (3, _)]) dX3_unlikeShapes_45 rfl rfl ⟨rfl, rfl⟩ ?_
        refine j_iinc 51 (lv' := [(0, _), (1, _), (2, _), (3, _)]) dX3_unlikeShapes_48 rfl rfl ⟨rfl, rfl⟩ ?_
        refine j_goto 4 dX3_unlikeShapes_51 ?_
        refine j_take 3 ?_
        have h := ih (b + 1) (by omega) (by omega)
        rw [e] at h
        exact h

set_option maxRecDepth 100000 in
set_option maxHeartbeats 4000000 in
theorem c_X3_unlikeShapes (E : jD) (x0 x1 x3 x4 x6 : Nat) (wd : Int) (nb : Nat) (sh : Nat → Int32) (hn : nb ≤ 48) : MC E Y_X3_unlikeShapes [.ref x0] [(x0, jO 3 [.ref x1, .ref x3, .ref x4, .ref x6, .int (iI wd), .int (iI (nb : Int))]), (x3, jA E 48 sh)] (fun r N0 => r = some (.int (iI ((unF (tI sh) nb : Nat)))) ∧ N0 = [(x0, jO 3 [.ref x1, .ref x3, .ref x4, .ref x6, .int (iI wd), .int (iI (nb : Int))]), (x3, jA E 48 sh)]) := by
  refine MC.of (by decide) rfl rfl ?_
  refine j_iconst 1 dX3_unlikeShapes_0 ?_
  refine j_istore_1 2 (lv' := [(0, _), (1, _)]) dX3_unlikeShapes_1 rfl ⟨rfl, rfl⟩ ?_
  refine j_iconst 3 dX3_unlikeShapes_2 ?_
  refine j_istore_2 4 (lv' := [(0, _), (1, _), (2, _)]) dX3_unlikeShapes_3 rfl ⟨rfl, rfl⟩ ?_
  exact lp_unlike E x0 x1 x3 x4 x6 wd nb sh hn (nb + 1) 0 (by omega) (by omega)

set_option maxRecDepth 100000 in
set_option maxHeartbeats 4000000 in
theorem lp_levels (E : jD) (x0 x1 x3 x4 x6 : Nat) (wd : Int) (nb : Nat) (hn : nb ≤ 48) : ∀ (d : Nat) (d0 : Nat) (r : Nat) (c : Nat), d0 < d → (1 ≤ r ∧ r ≤ 96) → (nb < r * 2 ^ d0) → (c + lvF nb d0 r = lvF nb 7 1) → J E Y_X3_levels (jZm E Y_X3_levels (fun r N0 => r = some (.int (iI (((lvF nb 7 1 : Nat) : Int)))) ∧ N0 = [(x0, jO 3 [.ref x1, .ref x3, .ref x4, .ref x6, .int (iI wd), .int (iI (nb : Int))])])) 0 0 4 [(0, .ref x0), (1, .int (iI (c : Int))), (2, .int (iI (r : Int)))] [] [(x0, jO 3 [.ref x1, .ref x3, .ref x4, .ref x6, .int (iI wd), .int (iI (nb : Int))])] := by
  intro d
  induction d with
  | zero => intros; omega
  | succ d ih =>
    intro d0 r c hd hr hb he
    refine j_iload_2 5 dX3_levels_4 rfl ?_
    refine j_aload_0 6 dX3_levels_5 rfl ?_
    refine j_get 9 0 gf_X3_36 dX3_levels_6 rfl rfl ?_
    refine j_icmp_gt 22 12 dX3_levels_9 (by first | exact iI_rng _ | exact bI_r _ | exact ⟨by omega, by omega⟩) (by first | exact iI_rng _ | exact bI_r _ | exact ⟨by omega, by omega⟩) (fun h9 => ?_) (fun h9 => ?_)
    · have e : lvF nb d0 r = 0 := lvF_big (by omega) d0
      rw [e] at he
      refine j_iload_1 23 dX3_levels_22 rfl ?_
      exact j_iret dX3_levels_23 rfl rfl ⟨congrArg (fun z => some (Value.int (iI z))) (by rw [← he]; omega), rfl⟩
    · obtain ⟨d0, rfl⟩ : ∃ q, d0 = q + 1 := by
        cases d0 with
        | zero => rw [Nat.pow_zero, Nat.mul_one] at hb; omega
        | succ q => exact ⟨q, rfl⟩
      have e : lvF nb (d0 + 1) r = lvF nb d0 (2 * r) + 1 := if_neg (by omega)
      rw [e] at he
      refine j_iinc 15 (lv' := [(0, _), (1, _), (2, _)]) dX3_levels_12 rfl rfl ⟨rfl, rfl⟩ ?_
      refine j_iload_2 16 dX3_levels_15 rfl ?_
      refine j_iconst 17 dX3_levels_16 ?_
      refine j_imul 18 dX3_levels_17 ?_
      refine j_istore_2 19 (lv' := [(0, _), (1, _), (2, _)]) dX3_levels_18 rfl ⟨rfl, rfl⟩ ?_
      refine j_goto 4 dX3_levels_19 ?_
      refine j_eqL (lv' := [(0, .ref x0), (1, .int (iI (((c + 1 : Nat) : Int) : Int))), (2, .int (iI ((2 * r : Nat) : Int)))]) (by rw [show ((r : Nat) : Int) * 2 = ((2 * r : Nat) : Int) by omega]; rfl) ?_
      exact ih d0 (2 * r) _ (by omega) (by omega) (by rw [p2x]; exact hb) (by omega)

set_option maxRecDepth 100000 in
set_option maxHeartbeats 4000000 in
theorem c_X3_levels (E : jD) (x0 x1 x3 x4 x6 : Nat) (wd : Int) (nb : Nat) (hn : nb ≤ 48) : MC E Y_X3_levels [.ref x0] [(x0, jO 3 [.ref x1, .ref x3, .ref x4, .ref x6, .int (iI wd), .int (iI (nb : Int))])] (fun r N0 => r = some (.int (iI (((lvF nb 7 1 : Nat) : Int)))) ∧ N0 = [(x0, jO 3 [.ref x1, .ref x3, .ref x4, .ref x6, .int (iI wd), .int (iI (nb : Int))])]) := by
  refine MC.of (by decide) rfl rfl ?_
  refine j_iconst 1 dX3_levels_0 ?_
  refine j_istore_1 2 (lv' := [(0, _), (1, _)]) dX3_levels_1 rfl ⟨rfl, rfl⟩ ?_
  refine j_iconst 3 dX3_levels_2 ?_
  refine j_istore_2 4 (lv' := [(0, _), (1, _), (2, _)]) dX3_levels_3 rfl ⟨rfl, rfl⟩ ?_
  exact lp_levels E x0 x1 x3 x4 x6 wd nb hn 8 7 1 0 (by omega) (by omega) (by omega) (by omega)

set_option maxRecDepth 100000 in
set_option maxHeartbeats 4000000 in
theorem lp_entries (E : jD) (x0 x1 x3 x4 x6 : Nat) (wd : Int) (nb : Nat) (hn : nb ≤ 48) : ∀ (d : Nat) (d0 : Nat) (r : Nat) (c : Int), d0 < d → (1 ≤ r ∧ r ≤ 96) → (nb < r * 2 ^ d0) → (c + enF nb d0 r = enF nb 7 1) → J E Y_X3_entries (jZm E Y_X3_entries (fun r N0 => r = some (.int (iI (enF nb 7 1))) ∧ N0 = [(x0, jO 3 [.ref x1, .ref x3, .ref x4, .ref x6, .int (iI wd), .int (iI (nb : Int))])])) 0 0 4 [(0, .ref x0), (1, .int (iI (c : Int))), (2, .int (iI (r : Int)))] [] [(x0, jO 3 [.ref x1, .ref x3, .ref x4, .ref x6, .int (iI wd), .int (iI (nb : Int))])] := by
  intro d
  induction d with
  | zero => intros; omega
  | succ d ih =>
    intro d0 r c hd hr hb he
    refine j_iload_2 5 dX3_entries_4 rfl ?_
    refine j_aload_0 6 dX3_entries_5 rfl ?_
    refine j_get 9 0 gf_X3_36 dX3_entries_6 rfl rfl ?_
    refine j_icmp_gt 30 12 dX3_entries_9 (by first | exact iI_rng _ | exact bI_r _ | exact ⟨by omega, by omega⟩) (by first | exact iI_rng _ | exact bI_r _ | exact ⟨by omega, by omega⟩) (fun h9 => ?_) (fun h9 => ?_)
    · have e : enF nb d0 r = 0 := enF_big (by omega) d0
      rw [e] at he
      refine j_iload_1 31 dX3_entries_30 rfl ?_
      exact j_iret dX3_entries_31 rfl rfl ⟨congrArg (fun z => some (Value.int (iI z))) (by rw [← he]; omega), rfl⟩
    · obtain ⟨d0, rfl⟩ : ∃ q, d0 = q + 1 := by
        cases d0 with
        | zero => rw [Nat.pow_zero, Nat.mul_one] at hb; omega
        | succ q => exact ⟨q, rfl⟩
      have e : enF nb (d0 + 1) r = enF nb d0 (2 * r) + ((nb : Int) - r + 1) := if_neg (by omega)
      rw [e] at he
      refine j_iload_1 13 dX3_entries_12 rfl ?_
      refine j_aload_0 14 dX3_entries_13 rfl ?_
      refine j_get 17 0 gf_X3_36 dX3_entries_14 rfl rfl ?_
      refine j_iload_2 18 dX3_entries_17 rfl ?_
      refine j_isub 19 dX3_entries_18 ?_
      refine j_iconst 20 dX3_entries_19 ?_
      refine j_iadd 21 dX3_entries_20 ?_
      refine j_iadd 22 dX3_entries_21 ?_
      refine j_istore_1 23 (lv' := [(0, _), (1, _), (2, _)]) dX3_entries_22 rfl ⟨rfl, rfl⟩ ?_
      refine j_iload_2 24 dX3_entries_23 rfl ?_
      refine j_iconst 25 dX3_entries_24 ?_
      refine j_imul 26 dX3_entries_25 ?_
      refine j_istore_2 27 (lv' := [(0, _), (1, _), (2, _)]) dX3_entries_26 rfl ⟨rfl, rfl⟩ ?_
      refine j_goto 4 dX3_entries_27 ?_
      refine j_eqL (lv' := [(0, .ref x0), (1, .int (iI ((c + ((nb : Int) - r + 1)) : Int))), (2, .int (iI ((2 * r : Nat) : Int)))]) (by rw [show ((r : Nat) : Int) * 2 = ((2 * r : Nat) : Int) by omega]) ?_
      exact ih d0 (2 * r) _ (by omega) (by omega) (by rw [p2x]; exact hb) (by omega)

set_option maxRecDepth 100000 in
set_option maxHeartbeats 4000000 in
theorem c_X3_entries (E : jD) (x0 x1 x3 x4 x6 : Nat) (wd : Int) (nb : Nat) (hn : nb ≤ 48) : MC E Y_X3_entries [.ref x0] [(x0, jO 3 [.ref x1, .ref x3, .ref x4, .ref x6, .int (iI wd), .int (iI (nb : Int))])] (fun r N0 => r = some (.int (iI (enF nb 7 1))) ∧ N0 = [(x0, jO 3 [.ref x1, .ref x3, .ref x4, .ref x6, .int (iI wd), .int (iI (nb : Int))])]) := by
  refine MC.of (by decide) rfl rfl ?_
  refine j_iconst 1 dX3_entries_0 ?_
  refine j_istore_1 2 (lv' := [(0, _), (1, _)]) dX3_entries_1 rfl ⟨rfl, rfl⟩ ?_
  refine j_iconst 3 dX3_entries_2 ?_
  refine j_istore_2 4 (lv' := [(0, _), (1, _), (2, _)]) dX3_entries_3 rfl ⟨rfl, rfl⟩ ?_
  exact lp_entries E x0 x1 x3 x4 x6 wd nb hn 8 7 1 0 (by omega) (by omega) (by omega) (by omega)

set_option maxRecDepth 100000 in
set_option maxHeartbeats 4000000 in
theorem c_X3_bits (E : jD) (x0 x1 x3 x4 x6 : Nat) (wd : Nat) (nb : Nat) (sh : Nat → Int32) (hn : nb ≤ 48) : MC E Y_X3_bits [.ref x0] [(x0, jO 3 [.ref x1, .ref x3, .ref x4, .ref x6, .int (iI (wd : Int)), .int (iI (nb : Int))]), (x3, jA E 48 sh)] (fun r N0 => r = some (.int (iI (biF (tI sh) wd nb))) ∧ N0 = [(x0, jO 3 [.ref x1, .ref x3, .ref x4, .ref x6, .int (iI (wd : Int)), .int (iI (nb : Int))]), (x3, jA E 48 sh)]) := by
  refine MC.of (by decide) rfl rfl ?_
  refine j_iconst 1 dX3_bits_0 ?_
  refine j_aload_0 2 dX3_bits_1 rfl ?_
  refine j_get 5 0 gf_X3_32 dX3_bits_2 rfl rfl ?_
  refine j_imul 6 dX3_bits_5 ?_
  refine j_aload_0 7 dX3_bits_6 rfl ?_
  refine j_get 10 0 gf_X3_32 dX3_bits_7 rfl rfl ?_
  refine j_imul 11 dX3_bits_10 ?_
  refine j_aload_0 12 dX3_bits_11 rfl ?_
  refine j_callVi 15 Y_X3_unlikeShapes [0, 1] [] (c_X3_unlikeShapes E _ _ _ _ _ _ _ _ hn) m_X3_unlikeShapes wml_X3_80 dX3_bits_12 0 rfl rfl rfl rfl rfl rfl rfl rfl rfl rfl ?_
  refine j_imul 16 dX3_bits_15 ?_
  refine j_istore_1 17 (lv' := [(0, _), (1, _)]) dX3_bits_16 rfl ⟨rfl, rfl⟩ ?_
  refine j_iconst 18 dX3_bits_17 ?_
  refine j_aload_0 19 dX3_bits_18 rfl ?_
  refine j_get 22 0 gf_X3_32 dX3_bits_19 rfl rfl ?_
  refine j_imul 23 dX3_bits_22 ?_
  refine j_aload_0 24 dX3_bits_23 rfl ?_
  refine j_get 27 0 gf_X3_36 dX3_bits_24 rfl rfl ?_
  refine j_imul 28 dX3_bits_27 ?_
  refine j_bipush 30 dX3_bits_28 (by decide +kernel) ?_
  refine j_aload_0 31 dX3_bits_30 rfl ?_
  refine j_callVi 34 Y_X3_entries [0] [] (c_X3_entries E _ _ _ _ _ _ _ hn) m_X3_entries wml_X3_84 dX3_bits_31 0 rfl rfl rfl rfl rfl rfl rfl rfl rfl rfl ?_
  refine j_imul 35 dX3_bits_34 ?_
  refine j_iadd 36 dX3_bits_35 ?_
  refine j_iload_1 37 dX3_bits_36 rfl ?_
  refine j_iadd 38 dX3_bits_37 ?_
  exact j_iret dX3_bits_38 rfl rfl ⟨rfl, rfl⟩

set_option maxRecDepth 100000 in
set_option maxHeartbeats 4000000 in
theorem c_X3_init (E : jD) (x0 : Nat)  : MC E Y_X3_init [.ref x0] [(x0, jO 3 [.null, .null, .null, .null, .int 0, .int 0])] (fun r N0 => ∃ x1 x2 x3 x4 x5 x6, r = none ∧ N0 = [(x0, jO 3 [.ref x1, .ref x3, .ref x4, .ref x6, .int (iI 0), .int (iI 0)]), (x1, jO 4 [.ref x2, .int (iI (-1))]), (x2, jA E 48 (fun _ => 0)), (x3, jA E 48 (fun _ => 0)), (x4, jO 5 [.ref x5, .int (iI 0)]), (x5, jL E 64 (fun _ => 0)), (x6, jA E 6 (fun _ => 0))]) := by
  refine MC.of (by decide) rfl rfl ?_
  refine j_aload_0 1 dX3_init_0 rfl ?_
  refine j_obj 4 wml_X3_3 dX3_init_1 rfl ?_
  refine j_aload_0 5 dX3_init_4 rfl ?_
  refine j_new 8 (fs := [.null, .int 0]) tyX4 (ci := 4) rfl inX4 tyX4_ok wcl_X3_9 wn_X4 wi_ShapeMinima_Row (by decide +kernel) dX3_init_5 rfl (fun x1 => ?_)
  refine j_dup 9 dX3_init_8 rfl ?_
  refine j_callI 12 Y_X4_init [1] [] (c_X4_init E x1) m_X4_init wml_X3_11 dX3_init_9 rfl rfl rfl rfl rfl rfl rfl (fun r N h => by obtain ⟨c, rfl, rfl⟩ := h; rfl) (fun r N h => ?_)
  obtain ⟨x2, rfl, rfl⟩ := h
  refine j_putF 15 0 pf_X3_12 rfl rfl dX3_init_12 rfl ⟨rfl, rfl, rfl⟩ ?_
  refine j_aload_0 16 dX3_init_15 rfl ?_
  refine j_bipush 18 dX3_init_16 (by decide +kernel) ?_
  refine j_newa 20 48 rfl rfl dX3_init_18 rfl (fun x3 => ?_)
  refine j_putF 23 0 pf_X3_18 rfl rfl dX3_init_20 rfl ⟨rfl, rfl, rfl⟩ ?_
  refine j_aload_0 24 dX3_init_23 rfl ?_
  refine j_new 27 (fs := [.null, .int 0]) tyX5 (ci := 5) rfl inX5 tyX5_ok wcl_X3_22 wn_X5 wi_ShapeMinima_ShapeSet (by decide +kernel) dX3_init_24 rfl (fun x4 => ?_)
  refine j_dup 28 dX3_init_27 rfl ?_
  refine j_callI 31 Y_X5_init [4] [] (c_X5_init E x4) m_X5_init wml_X3_24 dX3_init_28 rfl rfl rfl rfl rfl rfl rfl (fun r N h => by obtain ⟨c, rfl, rfl⟩ := h; rfl) (fun r N h => ?_)
  obtain ⟨x5, rfl, rfl⟩ := h
  refine j_putF 34 0 pf_X3_25 rfl rfl dX3_init_31 rfl ⟨rfl, rfl, rfl⟩ ?_
  refine j_aload_0 35 dX3_init_34 rfl ?_
  refine j_bipush 37 dX3_init_35 (by decide +kernel) ?_
  refine j_newa 39 6 rfl rfl dX3_init_37 rfl (fun x6 => ?_)
  refine j_putF 42 0 pf_X3_29 rfl rfl dX3_init_39 rfl ⟨rfl, rfl, rfl⟩ ?_
  refine j_aload_0 43 dX3_init_42 rfl ?_
  refine j_iconst 44 dX3_init_43 ?_
  refine j_put 47 0 pf_X3_32 dX3_init_44 rfl ⟨rfl, rfl, rfl⟩ ?_
  refine j_aload_0 48 dX3_init_47 rfl ?_
  refine j_iconst 49 dX3_init_48 ?_
  refine j_put 52 0 pf_X3_36 dX3_init_49 rfl ⟨rfl, rfl, rfl⟩ ?_
  exact j_vret dX3_init_52 rfl rfl ⟨x1, x2, x3, x4, x5, x6, rfl, rfl⟩

set_option maxRecDepth 100000 in
set_option maxHeartbeats 4000000 in
theorem c_X3_change (E : jD) (x0 x1 x2 x3 x4 x5 x6 : Nat) (wd : Nat) (bl : Int) (n : Nat) (f sh : Nat → Int32) (mm : Int) (w : Nat → Int64) (pl : Nat → Int32) (i : Nat) (v : Int32) (hw : 1 ≤ wd ∧ wd ≤ 6) (hn : n ≤ 48) (hi : i < n) : MC E Y_X3_change [.ref x0, .int (iI (i : Int)), .int v] [(x0, jO 3 [.ref x1, .ref x3, .ref x4, .ref x6, .int (iI (wd : Int)), .int (iI bl)]), (x1, jO 4 [.ref x2, .int (iI (n : Int))]), (x2, jA E 48 f), (x3, jA E 48 sh), (x4, jO 5 [.ref x5, .int (iI mm)]), (x5, jL E 64 w), (x6, jA E 6 pl)] (fun r N0 => ∃ pl2, r = some (.int (iI (bI (¬ ((shB (tI (upd f i v)) n wd (i / wd)) : Int) = (sh (i / wd)).toInt)))) ∧ N0 = [(x0, jO 3 [.ref x1, .ref x3, .ref x4, .ref x6, .int (iI (wd : Int)), .int (iI bl)]), (x1, jO 4 [.ref x2, .int (iI (n : Int))]), (x2, jA E 48 (upd f i v)), (x3, jA E 48 (upd sh (i / wd) (iI ((shB (tI (upd f i v)) n wd (i / wd)) : Nat)))), (x4, jO 5 [.ref x5, .int (iI (inM w mm (shB (tI (upd f i v)) n wd (i / wd))))]), (x5, jL E 64 (inW w (shB (tI (upd f i v)) n wd (i / wd)))), (x6, jA E 6 pl2)]) := by
  refine MC.of (by decide) rfl rfl ?_
  have hd1 := Nat.div_le_self i wd
  have hd2 := Nat.div_mul_le_self i wd
  have hsl := shB_lt (tI (upd f i v)) n (i / wd) hw.2
  refine j_aload_0 1 dX3_change_0 rfl ?_
  refine j_get 4 0 gf_X3_12 dX3_change_1 rfl rfl ?_
  refine j_iload_1 5 dX3_change_4 rfl ?_
  refine j_callVi 8 Y_X4_lacks [1] [_] (c_X4_lacks E _ _ _ _ (by exact ⟨by omega, by omega⟩) (by exact ⟨by omega, by omega⟩)) m_X4_lacks wml_X3_61 dX3_change_5 0 rfl rfl rfl rfl rfl rfl rfl rfl rfl rfl ?_
  refine j_bif_ne 19 11 dX3_change_8 (fun h8 => ?_) (fun h8 => ?_)
  · omega
  · refine j_aload_0 12 dX3_change_11 rfl ?_
    refine j_get 15 0 gf_X3_32 dX3_change_12 rfl rfl ?_
    refine j_iconst 16 dX3_change_15 ?_
    refine j_icmp_ge 21 19 dX3_change_16 (by first | exact iI_rng _ | exact bI_r _ | exact ⟨by omega, by omega⟩) (by first | exact iI_rng _ | exact bI_r _ | exact ⟨by omega, by omega⟩) (fun h16 => ?_) (fun h16 => ?_)
    · refine j_aload_0 22 dX3_change_21 rfl ?_
      refine j_get 25 0 gf_X3_12 dX3_change_22 rfl rfl ?_
      refine j_get 28 1 gf_X3_65 dX3_change_25 rfl rfl ?_
      refine j_iload_1 29 dX3_change_28 rfl ?_
      refine j_iload_2 30 dX3_change_29 rfl ?_
      refine j_iast 31 2 _ dX3_change_30 rfl rfl rfl (by omega) ?_
      refine j_iload_1 32 dX3_change_31 rfl ?_
      refine j_aload_0 33 dX3_change_32 rfl ?_
      refine j_get 36 0 gf_X3_32 dX3_change_33 rfl rfl ?_
      refine j_idiv 37 dX3_change_36 (by omega) (by omega) (by first | exact iI_rng _ | exact bI_r _ | exact ⟨by omega, by omega⟩) (by first | exact iI_rng _ | exact bI_r _ | exact ⟨by omega, by omega⟩) ?_
      refine j_top ((i / wd : Nat) : Int) rfl ?_
      refine j_istore_3 38 (lv' := [(0, _), (1, _), (2, _), (3, _)]) dX3_change_37 rfl ⟨rfl, rfl⟩ ?_
      refine j_aload_0 39 dX3_change_38 rfl ?_
      refine j_get 42 0 gf_X3_18 dX3_change_39 rfl rfl ?_
      refine j_iload_3 43 dX3_change_42 rfl ?_
      refine j_iald 44 3 (i / wd) dX3_change_43 rfl rfl rfl (by omega) ?_
      refine j_istore 46 (lv' := [(0, _), (1, _), (2, _), (3, _), (4, _)]) dX3_change_44 rfl ⟨rfl, rfl⟩ ?_
      refine j_aload_0 47 dX3_change_46 rfl ?_
      refine j_get 50 0 gf_X3_18 dX3_change_47 rfl rfl ?_
      refine j_iload_3 51 dX3_change_50 rfl ?_
      refine j_aload_0 52 dX3_change_51 rfl ?_
      refine j_iload_3 53 dX3_change_52 rfl ?_
      refine j_callV 56 Y_X3_shapeNow [0, 1, 2, 6] [_] (c_X3_shapeNow E _ _ _ _ _ _ _ _ _ _ _ _ _ hw hn rfl (by omega) (by omega)) m_X3_shapeNow wml_X3_53 dX3_change_53 0 rfl rfl rfl rfl rfl rfl rfl rfl rfl (fun r N h => by obtain ⟨_, rfl, rfl⟩ := h; rfl) (fun r N h => ?_)
      obtain ⟨pl2, rfl, rfl⟩ := h
      refine j_top (((shB (tI (upd f i v)) n wd (i / wd)) : Nat) : Int) rfl ?_
      refine j_iast 57 3 (i / wd) dX3_change_56 rfl rfl rfl (by omega) ?_
      refine j_aload_0 58 dX3_change_57 rfl ?_
      refine j_get 61 0 gf_X3_25 dX3_change_58 rfl rfl ?_
      refine j_aload_0 62 dX3_change_61 rfl ?_
      refine j_get 65 0 gf_X3_18 dX3_change_62 rfl rfl ?_
      refine j_iload_3 66 dX3_change_65 rfl ?_
      refine j_ialdw 67 3 (i / wd) ((((shB (tI (upd f i v)) n wd (i / wd)) : Nat) : Int)) dX3_change_66 rfl rfl rfl (by omega) (upd_at _ _ _) ?_
      refine j_callV 70 Y_X5_include [4, 5] [_] (c_X5_include E _ _ _ _ _ hsl) m_X5_include wml_X3_57 dX3_change_67 0 rfl rfl rfl rfl rfl rfl rfl rfl rfl (fun r N h => by obtain ⟨rfl, rfl⟩ := h; rfl) (fun r N h => ?_)
      obtain ⟨rfl, rfl⟩ := h
      refine j_aload_0 71 dX3_change_70 rfl ?_
      refine j_get 74 0 gf_X3_18 dX3_change_71 rfl rfl ?_
      refine j_iload_3 75 dX3_change_74 rfl ?_
      refine j_ialdw 76 3 (i / wd) ((((shB (tI (upd f i v)) n wd (i / wd)) : Nat) : Int)) dX3_change_75 rfl rfl rfl (by omega) (upd_at _ _ _) ?_
      refine j_iload 78 dX3_change_76 rfl ?_
      refine j_icmp_eq 85 81 dX3_change_78 (by first | exact iI_rng _ | exact bI_r _ | exact ⟨by omega, by omega⟩) (by first | exact iI_rng _ | exact bI_r _ | exact ⟨by omega, by omega⟩) (fun h78 => ?_) (fun h78 => ?_)
      · refine j_iconst 86 dX3_change_85 ?_
        exact j_zret (by first | exact bI_n _ | decide +kernel) dX3_change_86 rfl rfl ⟨pl2, congrArg (fun z => some (Value.int (iI z))) (by first | exact (bI_t (by omega)).symm | exact (bI_f (by omega)).symm), rfl⟩
      · refine j_iconst 82 dX3_change_81 ?_
        refine j_goto 86 dX3_change_82 ?_
        exact j_zret (by first | exact bI_n _ | decide +kernel) dX3_change_86 rfl rfl ⟨pl2, congrArg (fun z => some (Value.int (iI z))) (by first | exact (bI_t (by omega)).symm | exact (bI_f (by omega)).symm), rfl⟩
    · omega

set_option maxRecDepth 100000 in
set_option maxHeartbeats 4000000 in
theorem lp_becomeOver (E : jD) (x0 x1 x2 x3 x4 x5 x6 : Nat) (wd bl n : Int) (f sh : Nat → Int32) (mm : Int) (w : Nat → Int64) (r0 r1 : Nat) (n2 w2 : Nat) (f2 : Nat → Int32) (hw : 1 ≤ w2 ∧ w2 ≤ 6) (hn : n2 ≤ 48) : ∀ (d : Nat) (b : Nat) (pl : Nat → Int32), nB n2 w2 - b < d → (b ≤ nB n2 w2) → J E Y_X3_becomeOver (jZm E Y_X3_becomeOver (fun r N0 => ∃ pl2, r = none ∧ N0 = [(x0, jO 3 [.ref x1, .ref x3, .ref x4, .ref x6, .int (iI (w2 : Int)), .int (iI ((nB n2 w2 : Nat) : Int))]), (x1, jO 4 [.ref x2, .int (iI (n2 : Int))]), (x2, jA E 48 (va_cpy f2 f 0 0 48)), (x3, jA E 48 (shU sh (tI (va_cpy f2 f 0 0 48)) n2 w2 (nB n2 w2))), (x4, jO 5 [.ref x5, .int (iI (inB (tI (va_cpy f2 f 0 0 48)) n2 w2 (fa 0 64 w) (nB n2 w2)).2)]), (x5, jL E 64 (inB (tI (va_cpy f2 f 0 0 48)) n2 w2 (fa 0 64 w) (nB n2 w2)).1), (x6, jA E 6 pl2), (r0, jO 4 [.ref r1, .int (iI (n2 : Int))]), (r1, jA E 48 f2)])) 0 0 48 [(0, .ref x0), (1, .ref r0), (2, .int (iI (w2 : Int))), (3, .int (iI (b : Int)))] [] [(x0, jO 3 [.ref x1, .ref x3, .ref x4, .ref x6, .int (iI (w2 : Int)), .int (iI ((nB n2 w2 : Nat) : Int))]), (x1, jO 4 [.ref x2, .int (iI (n2 : Int))]), (x2, jA E 48 (va_cpy f2 f 0 0 48)), (x3, jA E 48 (shU sh (tI (va_cpy f2 f 0 0 48)) n2 w2 b)), (x4, jO 5 [.ref x5, .int (iI (inB (tI (va_cpy f2 f 0 0 48)) n2 w2 (fa 0 64 w) b).2)]), (x5, jL E 64 (inB (tI (va_cpy f2 f 0 0 48)) n2 w2 (fa 0 64 w) b).1), (x6, jA E 6 pl), (r0, jO 4 [.ref r1, .int (iI (n2 : Int))]), (r1, jA E 48 f2)] := by
  intro d
  induction d with
  | zero => intros; omega
  | succ d ih =>
    intro b pl hd hb
    have hle := nB_le (n := n2) hw.1
    refine j_iload_3 49 dX3_becomeOver_48 rfl ?_
    refine j_aload_0 50 dX3_becomeOver_49 rfl ?_
    refine j_get 53 0 gf_X3_36 dX3_becomeOver_50 rfl rfl ?_
    refine j_icmp_ge 86 56 dX3_becomeOver_53 (by first | exact iI_rng _ | exact bI_r _ | exact ⟨by omega, by omega⟩) (by first | exact iI_rng _ | exact bI_r _ | exact ⟨by omega, by omega⟩) (fun h53 => ?_) (fun h53 => ?_)
    · have e : b = nB n2 w2 := by omega
      subst e
      exact j_vret dX3_becomeOver_86 rfl rfl ⟨pl, rfl, rfl⟩
    · have hbi := nB_in hw.1 (show b < nB n2 w2 by omega)
      have hsl := shB_lt (tI (va_cpy f2 f 0 0 48)) n2 b hw.2
      refine j_aload_0 57 dX3_becomeOver_56 rfl ?_
      refine j_get 60 0 gf_X3_18 dX3_becomeOver_57 rfl rfl ?_
      refine j_iload_3 61 dX3_becomeOver_60 rfl ?_
      refine j_aload_0 62 dX3_becomeOver_61 rfl ?_
      refine j_iload_3 63 dX3_becomeOver_62 rfl ?_
      refine j_callV 66 Y_X3_shapeNow [0, 1, 2, 6] [_] (c_X3_shapeNow E _ _ _ _ _ _ _ _ _ _ _ _ _ hw hn rfl (by omega) (by omega)) m_X3_shapeNow wml_X3_53 dX3_becomeOver_63 0 rfl rfl rfl rfl rfl rfl rfl rfl rfl (fun r N h => by obtain ⟨_, rfl, rfl⟩ := h; rfl) (fun r N h => ?_)
      obtain ⟨pl2, rfl, rfl⟩ := h
      refine j_top ((shB (tI (va_cpy f2 f 0 0 48)) n2 w2 b : Nat) : Int) rfl ?_
      refine j_iast 67 3 (b) dX3_becomeOver_66 rfl rfl rfl (by omega) ?_
      rw [shU_s]
      refine j_aload_0 68 dX3_becomeOver_67 rfl ?_
      refine j_get 71 0 gf_X3_25 dX3_becomeOver_68 rfl rfl ?_
      refine j_aload_0 72 dX3_becomeOver_71 rfl ?_
      refine j_get 75 0 gf_X3_18 dX3_becomeOver_72 rfl rfl ?_
      refine j_iload_3 76 dX3_becomeOver_75 rfl ?_
      refine j_ialdw 77 3 (b) (((shB (tI (va_cpy f2 f 0 0 48)) n2 w2 b : Nat) : Int)) dX3_becomeOver_76 rfl rfl rfl (by omega) (by unfold shU; rw [if_pos (by omega)]) ?_
      refine j_callV 80 Y_X5_include [4, 5] [_] (c_X5_include E _ _ _ _ _ hsl) m_X5_include wml_X3_57 dX3_becomeOver_77 0 rfl rfl rfl rfl rfl rfl rfl rfl rfl (fun r N h => by obtain ⟨rfl, rfl⟩ := h; rfl) (fun r N h => ?_)
      obtain ⟨rfl, rfl⟩ := h
      refine j_iinc 83 (lv' := [(0, _), (1, _), (2, _), (3, _)]) dX3_becomeOver_80 rfl rfl ⟨rfl, rfl⟩ ?_
      refine j_goto 48 dX3_becomeOver_83 ?_
      exact ih (b + 1) pl2 (by omega) (by omega)

set_option maxRecDepth 100000 in
set_option maxHeartbeats 4000000 in
theorem c_X3_becomeOver (E : jD) (x0 x1 x2 x3 x4 x5 x6 : Nat) (wd bl n : Int) (f sh : Nat → Int32) (mm : Int) (w : Nat → Int64) (pl : Nat → Int32) (r0 r1 : Nat) (n2 w2 : Nat) (f2 : Nat → Int32) (hw : 1 ≤ w2 ∧ w2 ≤ 6) (hn : n2 ≤ 48) : MC E Y_X3_becomeOver [.ref x0, .ref r0, .int (iI (w2 : Int))] [(x0, jO 3 [.ref x1, .ref x3, .ref x4, .ref x6, .int (iI wd), .int (iI bl)]), (x1, jO 4 [.ref x2, .int (iI n)]), (x2, jA E 48 f), (x3, jA E 48 sh), (x4, jO 5 [.ref x5, .int (iI mm)]), (x5, jL E 64 w), (x6, jA E 6 pl), (r0, jO 4 [.ref r1, .int (iI (n2 : Int))]), (r1, jA E 48 f2)] (fun r N0 => ∃ pl2, r = none ∧ N0 = [(x0, jO 3 [.ref x1, .ref x3, .ref x4, .ref x6, .int (iI (w2 : Int)), .int (iI ((nB n2 w2 : Nat) : Int))]), (x1, jO 4 [.ref x2, .int (iI (n2 : Int))]), (x2, jA E 48 (va_cpy f2 f 0 0 48)), (x3, jA E 48 (shU sh (tI (va_cpy f2 f 0 0 48)) n2 w2 (nB n2 w2))), (x4, jO 5 [.ref x5, .int (iI (inB (tI (va_cpy f2 f 0 0 48)) n2 w2 (fa 0 64 w) (nB n2 w2)).2)]), (x5, jL E 64 (inB (tI (va_cpy f2 f 0 0 48)) n2 w2 (fa 0 64 w) (nB n2 w2)).1), (x6, jA E 6 pl2), (r0, jO 4 [.ref r1, .int (iI (n2 : Int))]), (r1, jA E 48 f2)]) := by
  refine MC.of (by decide) rfl rfl ?_
  refine j_aload_0 1 dX3_becomeOver_0 rfl ?_
  refine j_get 4 0 gf_X3_12 dX3_becomeOver_1 rfl rfl ?_
  refine j_aload_1 5 dX3_becomeOver_4 rfl ?_
  refine j_callV 8 Y_X4_become [1, 2, 7, 8] [_] (c_X4_become E _ _ _ _ _ _ _ _) m_X4_become wml_X3_43 dX3_becomeOver_5 0 rfl rfl rfl rfl rfl rfl rfl rfl rfl (fun r N h => by obtain ⟨rfl, rfl⟩ := h; rfl) (fun r N h => ?_)
  obtain ⟨rfl, rfl⟩ := h
  refine j_aload_0 9 dX3_becomeOver_8 rfl ?_
  refine j_iload_2 10 dX3_becomeOver_9 rfl ?_
  refine j_put 13 0 pf_X3_32 dX3_becomeOver_10 rfl ⟨rfl, rfl, rfl⟩ ?_
  refine j_aload_0 14 dX3_becomeOver_13 rfl ?_
  refine j_iload_2 15 dX3_becomeOver_14 rfl ?_
  refine j_iconst 16 dX3_becomeOver_15 ?_
  refine j_icmp_ge 23 19 dX3_becomeOver_16 (by first | exact iI_rng _ | exact bI_r _ | exact ⟨by omega, by omega⟩) (by first | exact iI_rng _ | exact bI_r _ | exact ⟨by omega, by omega⟩) (fun h16 => ?_) (fun h16 => ?_)
  · refine j_aload_0 24 dX3_becomeOver_23 rfl ?_
    refine j_get 27 0 gf_X3_12 dX3_becomeOver_24 rfl rfl ?_
    refine j_get 30 1 gf_X3_47 dX3_becomeOver_27 rfl rfl ?_
    refine j_iload_2 31 dX3_becomeOver_30 rfl ?_
    refine j_iadd 32 dX3_becomeOver_31 ?_
    refine j_iconst 33 dX3_becomeOver_32 ?_
    refine j_isub 34 dX3_becomeOver_33 ?_
    refine j_iload_2 35 dX3_becomeOver_34 rfl ?_
    refine j_idiv 36 dX3_becomeOver_35 (by omega) (by omega) (by first | exact iI_rng _ | exact bI_r _ | exact ⟨by omega, by omega⟩) (by first | exact iI_rng _ | exact bI_r _ | exact ⟨by omega, by omega⟩) ?_
    refine j_top ((nB n2 w2 : Nat) : Int) (congrArg iI (by rw [show (n2 : Int) + w2 - 1 = ((n2 + w2 - 1 : Nat) : Int) by omega]; rfl)) ?_
    refine j_put 39 0 pf_X3_36 dX3_becomeOver_36 rfl ⟨rfl, rfl, rfl⟩ ?_
    refine j_aload_0 40 dX3_becomeOver_39 rfl ?_
    refine j_get 43 0 gf_X3_25 dX3_becomeOver_40 rfl rfl ?_
    refine j_callV 46 Y_X5_becomeEmpty [4, 5] [] (c_X5_becomeEmpty E _ _ _ _) m_X5_becomeEmpty wml_X3_50 dX3_becomeOver_43 0 rfl rfl rfl rfl rfl rfl rfl rfl rfl (fun r N h => by obtain ⟨rfl, rfl⟩ := h; rfl) (fun r N h => ?_)
    obtain ⟨rfl, rfl⟩ := h
    refine j_iconst 47 dX3_becomeOver_46 ?_
    refine j_istore_3 48 (lv' := [(0, _), (1, _), (2, _), (3, _)]) dX3_becomeOver_47 rfl ⟨rfl, rfl⟩ ?_
    refine j_eqM (M' := [(x0, jO 3 [.ref x1, .ref x3, .ref x4, .ref x6, .int (iI (w2 : Int)), .int (iI ((nB n2 w2 : Nat) : Int))]), (x1, jO 4 [.ref x2, .int (iI (n2 : Int))]), (x2, jA E 48 (va_cpy f2 f 0 0 48)), (x3, jA E 48 (shU sh (tI (va_cpy f2 f 0 0 48)) n2 w2 0)), (x4, jO 5 [.ref x5, .int (iI (inB (tI (va_cpy f2 f 0 0 48)) n2 w2 (fa 0 64 w) 0).2)]), (x5, jL E 64 (inB (tI (va_cpy f2 f 0 0 48)) n2 w2 (fa 0 64 w) 0).1), (x6, jA E 6 pl), (r0, jO 4 [.ref r1, .int (iI (n2 : Int))]), (r1, jA E 48 f2)]) (by rw [shU_0]; rfl) ?_
    exact lp_becomeOver E x0 x1 x2 x3 x4 x5 x6 wd bl n f sh mm w r0 r1 n2 w2 f2 hw hn (nB n2 w2 + 1) 0 pl (by omega) (by omega)
  · omega
