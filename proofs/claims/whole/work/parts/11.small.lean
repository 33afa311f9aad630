set_option maxRecDepth 100000 in
set_option maxHeartbeats 4000000 in
theorem c_X5_init (E : jD) (a : Nat)  : MC E Y_X5_init [.ref a] [(a, jO 5 [.null, .int 0])] (fun r N0 => ∃ b, r = none ∧ N0 = [(a, jO 5 [.ref b, .int (iI 0)]), (b, jL E 64 (fun _ => 0))]) := by
  refine MC.of (by decide) rfl rfl ?_
  refine j_aload_0 1 dX5_init_0 rfl ?_
  refine j_obj 4 wml_X5_3 dX5_init_1 rfl ?_
  refine j_aload_0 5 dX5_init_4 rfl ?_
  refine j_bipush 7 dX5_init_5 (by decide +kernel) ?_
  refine j_newl 9 64 rfl rfl dX5_init_7 rfl (fun b => ?_)
  refine j_putF 12 0 pf_X5_9 rfl rfl dX5_init_9 rfl ⟨rfl, rfl, rfl⟩ ?_
  refine j_aload_0 13 dX5_init_12 rfl ?_
  refine j_iconst 14 dX5_init_13 ?_
  refine j_put 17 0 pf_X5_15 dX5_init_14 rfl ⟨rfl, rfl, rfl⟩ ?_
  exact j_vret dX5_init_17 rfl rfl ⟨b, rfl, rfl⟩

set_option maxRecDepth 100000 in
set_option maxHeartbeats 4000000 in
theorem c_X5_becomeEmpty (E : jD) (a b : Nat) (m : Int) (w : Nat → Int64)  : MC E Y_X5_becomeEmpty [.ref a] [(a, jO 5 [.ref b, .int (iI m)]), (b, jL E 64 w)] (fun r N0 => r = none ∧ N0 = [(a, jO 5 [.ref b, .int (iI 0)]), (b, jL E 64 (fa 0 64 w))]) := by
  refine MC.of (by decide) rfl rfl ?_
  refine j_aload_0 1 dX5_becomeEmpty_0 rfl ?_
  refine j_get 4 0 gf_X5_9 dX5_becomeEmpty_1 rfl rfl ?_
  refine j_lconst 5 0 dX5_becomeEmpty_4 rfl ?_
  refine j_callS 8 Y_J7_fill_d0a16 [1] [_, _] (c_J7_fill_d0a16 E _ _ _ _ (by decide)) m_J7_fill_d0a16 wml_X5_19 dX5_becomeEmpty_5 rfl rfl rfl rfl rfl rfl (fun r N h => by obtain ⟨rfl, rfl⟩ := h; rfl) (fun r N h => ?_)
  obtain ⟨rfl, rfl⟩ := h
  refine j_aload_0 9 dX5_becomeEmpty_8 rfl ?_
  refine j_iconst 10 dX5_becomeEmpty_9 ?_
  refine j_put 13 0 pf_X5_15 dX5_becomeEmpty_10 rfl ⟨rfl, rfl, rfl⟩ ?_
  exact j_vret dX5_becomeEmpty_13 rfl rfl ⟨rfl, rfl⟩

set_option maxRecDepth 100000 in
set_option maxHeartbeats 4000000 in
theorem c_X5_has (E : jD) (a b : Nat) (m : Int) (w : Nat → Int64) (i : Int) (hi : jr i) : MC E Y_X5_has [.ref a, .int (iI i)] [(a, jO 5 [.ref b, .int (iI m)]), (b, jL E 64 w)] (fun r N0 => r = some (.int (iI (bI (0 ≤ i ∧ i < 4096 ∧ wB w i.toNat = true)))) ∧ N0 = [(a, jO 5 [.ref b, .int (iI m)]), (b, jL E 64 w)]) := by
  refine MC.of (by decide) rfl rfl ?_
  refine j_iload_1 1 dX5_has_0 rfl ?_
  refine j_if_lt 36 4 dX5_has_1 (by first | exact iI_rng _ | exact bI_r _ | exact ⟨by omega, by omega⟩) (fun h1 => ?_) (fun h1 => ?_)
  · refine j_iconst 37 dX5_has_36 ?_
    exact j_zret (by first | exact bI_n _ | decide +kernel) dX5_has_37 rfl rfl ⟨congrArg (fun z => some (Value.int (iI z))) (by first | exact (bI_t (by omega)).symm | exact (bI_f (by omega)).symm), rfl⟩
  · refine j_iload_1 5 dX5_has_4 rfl ?_
    refine j_sipush 8 dX5_has_5 (by decide +kernel) ?_
    refine j_icmp_ge 36 11 dX5_has_8 (by first | exact iI_rng _ | exact bI_r _ | exact ⟨by omega, by omega⟩) (by first | exact iI_rng _ | exact bI_r _ | exact ⟨by omega, by omega⟩) (fun h8 => ?_) (fun h8 => ?_)
    · refine j_iconst 37 dX5_has_36 ?_
      exact j_zret (by first | exact bI_n _ | decide +kernel) dX5_has_37 rfl rfl ⟨congrArg (fun z => some (Value.int (iI z))) (by first | exact (bI_t (by omega)).symm | exact (bI_f (by omega)).symm), rfl⟩
    · obtain ⟨s, rfl⟩ : ∃ s : Nat, i = (s : Int) := ⟨i.toNat, by omega⟩
      have hs : s < 4096 := by omega
      have hb := ts_bit (w := w (s / 64)) (Nat.mod_lt s (by decide)) (sh_cnt (s % 64) (Nat.mod_lt s (by decide)))
      refine j_aload_0 12 dX5_has_11 rfl ?_
      refine j_get 15 0 gf_X5_9 dX5_has_12 rfl rfl ?_
      refine j_iload_1 16 dX5_has_15 rfl ?_
      refine j_bipush 18 dX5_has_16 (by decide +kernel) ?_
      refine j_ishr 19 dX5_has_18 ?_
      refine j_top ((s / 64 : Nat) : Int) (iI_shr 6 6 (by omega) (by decide +kernel)) ?_
      refine j_lald 20 1 (s / 64) dX5_has_19 rfl rfl rfl (by omega) ?_
      refine j_iload_1 21 dX5_has_20 rfl ?_
      refine j_bipush 23 dX5_has_21 (by decide +kernel) ?_
      refine j_iand 24 dX5_has_23 ?_
      refine j_top ((s % 64 : Nat) : Int) (iI_and 63 6 (by omega) (by decide +kernel)) ?_
      refine j_lushr 25 dX5_has_24 ?_
      refine j_lconst 26 1 dX5_has_25 rfl ?_
      refine j_land 27 dX5_has_26 ?_
      refine j_lconst 28 0 dX5_has_27 rfl ?_
      refine j_lif_eq 36 32 dX5_has_28 dX5_has_29 (fun h28 => ?_) (fun h28 => ?_)
      · refine j_iconst 37 dX5_has_36 ?_
        exact j_zret (by decide +kernel) dX5_has_37 rfl rfl ⟨congrArg (fun z => some (Value.int (iI z))) (bI_f (fun q => by have h1 := hb.mp h28; have h2 : wB w s = true := q.2.2; unfold wB at h2; rw [h1] at h2; exact absurd h2 (by decide))).symm, rfl⟩
      · refine j_iconst 33 dX5_has_32 ?_
        refine j_goto 37 dX5_has_33 ?_
        exact j_zret (by decide +kernel) dX5_has_37 rfl rfl ⟨congrArg (fun z => some (Value.int (iI z))) (bI_t ⟨by omega, by omega, by show wB w s = true; unfold wB; cases hq : (w (s / 64)).toBitVec.getLsbD (s % 64) with | true => rfl | false => exact absurd (hb.mpr hq) h28⟩).symm, rfl⟩

set_option maxRecDepth 100000 in
set_option maxHeartbeats 4000000 in
theorem c_X5_include_n (E : jD) (a b : Nat) (m : Int) (w : Nat → Int64) (s : Nat) (hs : s < 4096) (hw : wB w s = false) : MC E Y_X5_include [.ref a, .int (iI (s : Int))] [(a, jO 5 [.ref b, .int (iI m)]), (b, jL E 64 w)] (fun r N0 => r = none ∧ N0 = [(a, jO 5 [.ref b, .int (iI (m + 1))]), (b, jL E 64 (incW w s))]) := by
  refine MC.of (by decide) rfl rfl ?_
  refine j_iload_1 1 dX5_include_0 rfl ?_
  refine j_if_lt 47 4 dX5_include_1 (by first | exact iI_rng _ | exact bI_r _ | exact ⟨by omega, by omega⟩) (fun h1 => ?_) (fun h1 => ?_)
  · omega
  · refine j_iload_1 5 dX5_include_4 rfl ?_
    refine j_sipush 8 dX5_include_5 (by decide +kernel) ?_
    refine j_icmp_ge 47 11 dX5_include_8 (by first | exact iI_rng _ | exact bI_r _ | exact ⟨by omega, by omega⟩) (by first | exact iI_rng _ | exact bI_r _ | exact ⟨by omega, by omega⟩) (fun h8 => ?_) (fun h8 => ?_)
    · omega
    · refine j_aload_0 12 dX5_include_11 rfl ?_
      refine j_iload_1 13 dX5_include_12 rfl ?_
      refine j_callVi 16 Y_X5_has [0, 1] [_] (c_X5_has E _ _ _ _ _ (by exact ⟨by omega, by omega⟩)) m_X5_has wml_X5_25 dX5_include_13 0 rfl rfl rfl rfl rfl rfl rfl rfl rfl rfl ?_
      refine j_bif_ne 47 19 dX5_include_16 (fun h16 => ?_) (fun h16 => ?_)
      · exact absurd (show wB w s = true from h16.2.2) (by rw [hw]; decide)
      · refine j_aload_0 20 dX5_include_19 rfl ?_
        refine j_get 23 0 gf_X5_9 dX5_include_20 rfl rfl ?_
        refine j_iload_1 24 dX5_include_23 rfl ?_
        refine j_bipush 26 dX5_include_24 (by decide +kernel) ?_
        refine j_ishr 27 dX5_include_26 ?_
        refine j_top ((s / 64 : Nat) : Int) (iI_shr 6 6 (by omega) (by decide +kernel)) ?_
        refine j_dup2 28 dX5_include_27 rfl rfl ?_
        refine j_lald 29 1 (s / 64) dX5_include_28 rfl rfl rfl (by omega) ?_
        refine j_lconst 30 1 dX5_include_29 rfl ?_
        refine j_iload_1 31 dX5_include_30 rfl ?_
        refine j_bipush 33 dX5_include_31 (by decide +kernel) ?_
        refine j_iand 34 dX5_include_33 ?_
        refine j_top ((s % 64 : Nat) : Int) (iI_and 63 6 (by omega) (by decide +kernel)) ?_
        refine j_lshl 35 dX5_include_34 ?_
        refine j_lor 36 dX5_include_35 ?_
        refine j_last 37 1 (s / 64) dX5_include_36 rfl rfl rfl (by omega) ?_
        refine j_aload_0 38 dX5_include_37 rfl ?_
        refine j_dup 39 dX5_include_38 rfl ?_
        refine j_get 42 0 gf_X5_15 dX5_include_39 rfl rfl ?_
        refine j_iconst 43 dX5_include_42 ?_
        refine j_iadd 44 dX5_include_43 ?_
        refine j_put 47 0 pf_X5_15 dX5_include_44 rfl ⟨rfl, rfl, rfl⟩ ?_
        exact j_vret dX5_include_47 rfl rfl ⟨rfl, rfl⟩

set_option maxRecDepth 100000 in
set_option maxHeartbeats 4000000 in
theorem c_X5_include_y (E : jD) (a b : Nat) (m : Int) (w : Nat → Int64) (s : Nat) (hs : s < 4096) (hw : wB w s = true) : MC E Y_X5_include [.ref a, .int (iI (s : Int))] [(a, jO 5 [.ref b, .int (iI m)]), (b, jL E 64 w)] (fun r N0 => r = none ∧ N0 = [(a, jO 5 [.ref b, .int (iI m)]), (b, jL E 64 w)]) := by
  refine MC.of (by decide) rfl rfl ?_
  refine j_iload_1 1 dX5_include_0 rfl ?_
  refine j_if_lt 47 4 dX5_include_1 (by first | exact iI_rng _ | exact bI_r _ | exact ⟨by omega, by omega⟩) (fun h1 => ?_) (fun h1 => ?_)
  · omega
  · refine j_iload_1 5 dX5_include_4 rfl ?_
    refine j_sipush 8 dX5_include_5 (by decide +kernel) ?_
    refine j_icmp_ge 47 11 dX5_include_8 (by first | exact iI_rng _ | exact bI_r _ | exact ⟨by omega, by omega⟩) (by first | exact iI_rng _ | exact bI_r _ | exact ⟨by omega, by omega⟩) (fun h8 => ?_) (fun h8 => ?_)
    · omega
    · refine j_aload_0 12 dX5_include_11 rfl ?_
      refine j_iload_1 13 dX5_include_12 rfl ?_
      refine j_callVi 16 Y_X5_has [0, 1] [_] (c_X5_has E _ _ _ _ _ (by exact ⟨by omega, by omega⟩)) m_X5_has wml_X5_25 dX5_include_13 0 rfl rfl rfl rfl rfl rfl rfl rfl rfl rfl ?_
      refine j_bif_ne 47 19 dX5_include_16 (fun h16 => ?_) (fun h16 => ?_)
      · exact j_vret dX5_include_47 rfl rfl ⟨rfl, rfl⟩
      · exact absurd ⟨by omega, by omega, hw⟩ h16

set_option maxRecDepth 100000 in
set_option maxHeartbeats 4000000 in
theorem c_X1_init (E : jD) (a : Nat)  : MC E Y_X1_init [.ref a] [(a, jO 1 [.null, .null, .int 0])] (fun r N0 => ∃ b c, r = none ∧ N0 = [(a, jO 1 [.ref b, .ref c, .int (iI 0)]), (b, jA E 10 (fun _ => 0)), (c, jA E 10 (fun _ => 0))]) := by
  refine MC.of (by decide) rfl rfl ?_
  refine j_aload_0 1 dX1_init_0 rfl ?_
  refine j_obj 4 wml_X1_3 dX1_init_1 rfl ?_
  refine j_aload_0 5 dX1_init_4 rfl ?_
  refine j_bipush 7 dX1_init_5 (by decide +kernel) ?_
  refine j_newa 9 10 rfl rfl dX1_init_7 rfl (fun b => ?_)
  refine j_putF 12 0 pf_X1_9 rfl rfl dX1_init_9 rfl ⟨rfl, rfl, rfl⟩ ?_
  refine j_aload_0 13 dX1_init_12 rfl ?_
  refine j_bipush 15 dX1_init_13 (by decide +kernel) ?_
  refine j_newa 17 10 rfl rfl dX1_init_15 rfl (fun c => ?_)
  refine j_putF 20 0 pf_X1_15 rfl rfl dX1_init_17 rfl ⟨rfl, rfl, rfl⟩ ?_
  refine j_aload_0 21 dX1_init_20 rfl ?_
  refine j_iconst 22 dX1_init_21 ?_
  refine j_put 25 0 pf_X1_18 dX1_init_22 rfl ⟨rfl, rfl, rfl⟩ ?_
  exact j_vret dX1_init_25 rfl rfl ⟨b, c, rfl, rfl⟩

set_option maxRecDepth 100000 in
set_option maxHeartbeats 4000000 in
theorem c_X1_forget (E : jD) (a b c : Nat) (m : Int) (p q : Nat → Int32)  : MC E Y_X1_forget [.ref a] [(a, jO 1 [.ref b, .ref c, .int (iI m)]), (b, jA E 10 p), (c, jA E 10 q)] (fun r N0 => r = none ∧ N0 = [(a, jO 1 [.ref b, .ref c, .int (iI 0)]), (b, jA E 10 p), (c, jA E 10 q)]) := by
  refine MC.of (by decide) rfl rfl ?_
  refine j_aload_0 1 dX1_forget_0 rfl ?_
  refine j_iconst 2 dX1_forget_1 ?_
  refine j_put 5 0 pf_X1_18 dX1_forget_2 rfl ⟨rfl, rfl, rfl⟩ ?_
  exact j_vret dX1_forget_5 rfl rfl ⟨rfl, rfl⟩

set_option maxRecDepth 100000 in
set_option maxHeartbeats 4000000 in
theorem lp_loseOldest (E : jD) (a b c : Nat) (m : Int) (p q : Nat → Int32) : ∀ (d : Nat) (k : Nat), 9 - k < d → k ≤ 9 → J E Y_X1_loseOldest (jZm E Y_X1_loseOldest (fun r N0 => r = none ∧ N0 = [(a, jO 1 [.ref b, .ref c, .int (iI 9)]), (b, jA E 10 (shF p 9)), (c, jA E 10 (shF q 9))])) 0 0 2 [(0, .ref a), (1, .int (iI ((k : Int) + 1)))] [] [(a, jO 1 [.ref b, .ref c, .int (iI m)]), (b, jA E 10 (shF p k)), (c, jA E 10 (shF q k))] := by
  intro d
  induction d with
  | zero => intros; omega
  | succ d ih =>
    intro k hd hk
    refine j_iload_1 3 dX1_loseOldest_2 rfl ?_
    refine j_bipush 5 dX1_loseOldest_3 (by decide +kernel) ?_
    refine j_icmp_ge 42 8 dX1_loseOldest_5 (by first | exact iI_rng _ | exact bI_r _ | exact ⟨by omega, by omega⟩) (by first | exact iI_rng _ | exact bI_r _ | exact ⟨by omega, by omega⟩) (fun h5 => ?_) (fun h5 => ?_)
    · have e : k = 9 := by omega
      subst e
      refine j_aload_0 43 dX1_loseOldest_42 rfl ?_
      refine j_bipush 45 dX1_loseOldest_43 (by decide +kernel) ?_
      refine j_put 48 0 pf_X1_18 dX1_loseOldest_45 rfl ⟨rfl, rfl, rfl⟩ ?_
      exact j_vret dX1_loseOldest_48 rfl rfl ⟨rfl, rfl⟩
    · refine j_aload_0 9 dX1_loseOldest_8 rfl ?_
      refine j_get 12 0 gf_X1_9 dX1_loseOldest_9 rfl rfl ?_
      refine j_iload_1 13 dX1_loseOldest_12 rfl ?_
      refine j_iconst 14 dX1_loseOldest_13 ?_
      refine j_isub 15 dX1_loseOldest_14 ?_
      refine j_aload_0 16 dX1_loseOldest_15 rfl ?_
      refine j_get 19 0 gf_X1_9 dX1_loseOldest_16 rfl rfl ?_
      refine j_iload_1 20 dX1_loseOldest_19 rfl ?_
      refine j_ialdx 21 1 (k + 1) dX1_loseOldest_20 rfl rfl (by omega) (by omega) ?_
      rw [show shF p k (k + 1) = p (k + 1) by unfold shF; rw [if_neg (by omega)]]
      refine j_iast 22 1 (k) dX1_loseOldest_21 rfl rfl (by omega) (by omega) ?_
      rw [shF_s]
      refine j_aload_0 23 dX1_loseOldest_22 rfl ?_
      refine j_get 26 0 gf_X1_15 dX1_loseOldest_23 rfl rfl ?_
      refine j_iload_1 27 dX1_loseOldest_26 rfl ?_
      refine j_iconst 28 dX1_loseOldest_27 ?_
      refine j_isub 29 dX1_loseOldest_28 ?_
      refine j_aload_0 30 dX1_loseOldest_29 rfl ?_
      refine j_get 33 0 gf_X1_15 dX1_loseOldest_30 rfl rfl ?_
      refine j_iload_1 34 dX1_loseOldest_33 rfl ?_
      refine j_ialdx 35 2 (k + 1) dX1_loseOldest_34 rfl rfl (by omega) (by omega) ?_
      rw [show shF q k (k + 1) = q (k + 1) by unfold shF; rw [if_neg (by omega)]]
      refine j_iast 36 2 (k) dX1_loseOldest_35 rfl rfl (by omega) (by omega) ?_
      rw [shF_s]
      refine j_iinc 39 (lv' := [(0, _), (1, _)]) dX1_loseOldest_36 rfl rfl ⟨rfl, rfl⟩ ?_
      refine j_goto 2 dX1_loseOldest_39 ?_
      exact ih (k + 1) (by omega) (by omega)

set_option maxRecDepth 100000 in
set_option maxHeartbeats 4000000 in
theorem c_X1_loseOldest (E : jD) (a b c : Nat) (m : Int) (p q : Nat → Int32)  : MC E Y_X1_loseOldest [.ref a] [(a, jO 1 [.ref b, .ref c, .int (iI m)]), (b, jA E 10 p), (c, jA E 10 q)] (fun r N0 => r = none ∧ N0 = [(a, jO 1 [.ref b, .ref c, .int (iI 9)]), (b, jA E 10 (shF p 9)), (c, jA E 10 (shF q 9))]) := by
  refine MC.of (by decide) rfl rfl ?_
  refine j_iconst 1 dX1_loseOldest_0 ?_
  refine j_istore_1 2 (lv' := [(0, _), (1, _)]) dX1_loseOldest_1 rfl ⟨rfl, rfl⟩ ?_
  exact j_eqM (by rw [shF_0, shF_0]) (lp_loseOldest E a b c m p q 10 0 (by omega) (by omega))

set_option maxRecDepth 100000 in
set_option maxHeartbeats 4000000 in
theorem c_X1_remember_lo (E : jD) (a b c : Nat) (m : Nat) (p q : Nat → Int32) (x y : Int32) (hm : m < 10) : MC E Y_X1_remember [.ref a, .int x, .int y] [(a, jO 1 [.ref b, .ref c, .int (iI (m : Int))]), (b, jA E 10 p), (c, jA E 10 q)] (fun r N0 => r = none ∧ N0 = [(a, jO 1 [.ref b, .ref c, .int (iI ((m : Int) + 1))]), (b, jA E 10 (upd p m x)), (c, jA E 10 (upd q m y))]) := by
  refine MC.of (by decide) rfl rfl ?_
  refine j_aload_0 1 dX1_remember_0 rfl ?_
  refine j_get 4 0 gf_X1_18 dX1_remember_1 rfl rfl ?_
  refine j_bipush 6 dX1_remember_4 (by decide +kernel) ?_
  refine j_icmp_lt 13 9 dX1_remember_6 (by first | exact iI_rng _ | exact bI_r _ | exact ⟨by omega, by omega⟩) (by first | exact iI_rng _ | exact bI_r _ | exact ⟨by omega, by omega⟩) (fun h6 => ?_) (fun h6 => ?_)
  · refine j_aload_0 14 dX1_remember_13 rfl ?_
    refine j_get 17 0 gf_X1_9 dX1_remember_14 rfl rfl ?_
    refine j_aload_0 18 dX1_remember_17 rfl ?_
    refine j_get 21 0 gf_X1_18 dX1_remember_18 rfl rfl ?_
    refine j_iload_1 22 dX1_remember_21 rfl ?_
    refine j_iast 23 1 _ dX1_remember_22 rfl rfl rfl (by omega) ?_
    refine j_aload_0 24 dX1_remember_23 rfl ?_
    refine j_get 27 0 gf_X1_15 dX1_remember_24 rfl rfl ?_
    refine j_aload_0 28 dX1_remember_27 rfl ?_
    refine j_get 31 0 gf_X1_18 dX1_remember_28 rfl rfl ?_
    refine j_iload_2 32 dX1_remember_31 rfl ?_
    refine j_iast 33 2 _ dX1_remember_32 rfl rfl rfl (by omega) ?_
    refine j_aload_0 34 dX1_remember_33 rfl ?_
    refine j_dup 35 dX1_remember_34 rfl ?_
    refine j_get 38 0 gf_X1_18 dX1_remember_35 rfl rfl ?_
    refine j_iconst 39 dX1_remember_38 ?_
    refine j_iadd 40 dX1_remember_39 ?_
    refine j_put 43 0 pf_X1_18 dX1_remember_40 rfl ⟨rfl, rfl, rfl⟩ ?_
    exact j_vret dX1_remember_43 rfl rfl ⟨rfl, rfl⟩
  · omega

set_option maxRecDepth 100000 in
set_option maxHeartbeats 4000000 in
theorem c_X1_remember_hi (E : jD) (a b c : Nat) (p q : Nat → Int32) (x y : Int32)  : MC E Y_X1_remember [.ref a, .int x, .int y] [(a, jO 1 [.ref b, .ref c, .int (iI 10)]), (b, jA E 10 p), (c, jA E 10 q)] (fun r N0 => r = none ∧ N0 = [(a, jO 1 [.ref b, .ref c, .int (iI 10)]), (b, jA E 10 (upd (shF p 9) 9 x)), (c, jA E 10 (upd (shF q 9) 9 y))]) := by
  refine MC.of (by decide) rfl rfl ?_
  refine j_aload_0 1 dX1_remember_0 rfl ?_
  refine j_get 4 0 gf_X1_18 dX1_remember_1 rfl rfl ?_
  refine j_bipush 6 dX1_remember_4 (by decide +kernel) ?_
  refine j_icmp_lt 13 9 dX1_remember_6 (by first | exact iI_rng _ | exact bI_r _ | exact ⟨by omega, by omega⟩) (by first | exact iI_rng _ | exact bI_r _ | exact ⟨by omega, by omega⟩) (fun h6 => ?_) (fun h6 => ?_)
  · omega
  · refine j_aload_0 10 dX1_remember_9 rfl ?_
    refine j_callV 13 Y_X1_loseOldest [0, 1, 2] [] (c_X1_loseOldest E _ _ _ _ _ _) m_X1_loseOldest wml_X1_22 dX1_remember_10 0 rfl rfl rfl rfl rfl rfl rfl rfl rfl (fun r N h => by obtain ⟨rfl, rfl⟩ := h; rfl) (fun r N h => ?_)
    obtain ⟨rfl, rfl⟩ := h
    refine j_aload_0 14 dX1_remember_13 rfl ?_
    refine j_get 17 0 gf_X1_9 dX1_remember_14 rfl rfl ?_
    refine j_aload_0 18 dX1_remember_17 rfl ?_
    refine j_get 21 0 gf_X1_18 dX1_remember_18 rfl rfl ?_
    refine j_iload_1 22 dX1_remember_21 rfl ?_
    refine j_iast 23 1 (9) dX1_remember_22 rfl rfl (by omega) (by omega) ?_
    refine j_aload_0 24 dX1_remember_23 rfl ?_
    refine j_get 27 0 gf_X1_15 dX1_remember_24 rfl rfl ?_
    refine j_aload_0 28 dX1_remember_27 rfl ?_
    refine j_get 31 0 gf_X1_18 dX1_remember_28 rfl rfl ?_
    refine j_iload_2 32 dX1_remember_31 rfl ?_
    refine j_iast 33 2 (9) dX1_remember_32 rfl rfl (by omega) (by omega) ?_
    refine j_aload_0 34 dX1_remember_33 rfl ?_
    refine j_dup 35 dX1_remember_34 rfl ?_
    refine j_get 38 0 gf_X1_18 dX1_remember_35 rfl rfl ?_
    refine j_iconst 39 dX1_remember_38 ?_
    refine j_iadd 40 dX1_remember_39 ?_
    refine j_put 43 0 pf_X1_18 dX1_remember_40 rfl ⟨rfl, rfl, rfl⟩ ?_
    exact j_vret dX1_remember_43 rfl rfl ⟨rfl, rfl⟩

set_option maxRecDepth 100000 in
set_option maxHeartbeats 4000000 in
theorem c_X2_init (E : jD) (a : Nat)  : MC E Y_X2_init [.ref a] [(a, jO 2 [.null, .int 0])] (fun r N0 => ∃ b c, r = none ∧ N0 = [(a, jO 2 [.ref b, .int (iI 0)]), (b, jO 4 [.ref c, .int (iI (-1))]), (c, jA E 48 (fun _ => 0))]) := by
  refine MC.of (by decide) rfl rfl ?_
  refine j_aload_0 1 dX2_init_0 rfl ?_
  refine j_obj 4 wml_X2_1 dX2_init_1 rfl ?_
  refine j_aload_0 5 dX2_init_4 rfl ?_
  refine j_new 8 (fs := [.null, .int 0]) tyX4 (ci := 4) rfl inX4 tyX4_ok wcl_X2_7 wn_X4 wi_ShapeMinima_Row (by decide +kernel) dX2_init_5 rfl (fun b => ?_)
  refine j_dup 9 dX2_init_8 rfl ?_
  refine j_callI 12 Y_X4_init [1] [] (c_X4_init E b) m_X4_init wml_X2_9 dX2_init_9 rfl rfl rfl rfl rfl rfl rfl (fun r N h => by obtain ⟨c, rfl, rfl⟩ := h; rfl) (fun r N h => ?_)
  obtain ⟨c, rfl, rfl⟩ := h
  refine j_putF 15 0 pf_X2_10 rfl rfl dX2_init_12 rfl ⟨rfl, rfl, rfl⟩ ?_
  refine j_aload_0 16 dX2_init_15 rfl ?_
  refine j_iconst 17 dX2_init_16 ?_
  refine j_put 20 0 pf_X2_16 dX2_init_17 rfl ⟨rfl, rfl, rfl⟩ ?_
  exact j_vret dX2_init_20 rfl rfl ⟨b, c, rfl, rfl⟩
