set_option maxRecDepth 100000 in
set_option maxHeartbeats 4000000 in
theorem c_X3_isNone (E : jD) (x0 x1 x2 x3 x4 x6 : Nat) (wd bl N : Int) (hN : jr N) : MC E Y_X3_isNone [.ref x0] [(x0, jO 3 [.ref x1, .ref x3, .ref x4, .ref x6, .int (iI wd), .int (iI bl)]), (x1, jO 4 [.ref x2, .int (iI N)])] (fun r N0 => r = some (.int (iI (bI (N < 0)))) ∧ N0 = [(x0, jO 3 [.ref x1, .ref x3, .ref x4, .ref x6, .int (iI wd), .int (iI bl)]), (x1, jO 4 [.ref x2, .int (iI N)])]) := by
  refine MC.of (by decide) rfl rfl ?_
  refine j_aload_0 1 dX3_isNone_0 rfl ?_
  refine j_get 4 0 gf_X3_12 dX3_isNone_1 rfl rfl ?_
  refine j_callVi 7 Y_X4_isMissing [1] [] (c_X4_isMissing E _ _ _ hN) m_X4_isMissing wml_X3_39 dX3_isNone_4 0 rfl rfl rfl rfl rfl rfl rfl rfl rfl rfl ?_
  exact j_zret (by first | exact bI_n _ | decide +kernel) dX3_isNone_7 rfl rfl ⟨rfl, rfl⟩

set_option maxRecDepth 100000 in
set_option maxHeartbeats 4000000 in
theorem lp_leastPlace (E : jD) (x0 x1 x2 x3 x4 x6 : Nat) (wd bl : Int) (n : Nat) (f : Nat → Int32) (i j : Nat) (hj : j < 48) (hij : i ≤ j) : ∀ (d : Nat) (d0 : Nat), j - i - d0 < d → (d0 ≤ j - i) → J E Y_X3_leastPlace (jZm E Y_X3_leastPlace (fun r N0 => r = some (.int (iI ((lsF (tI f) i (j - i) : Nat)))) ∧ N0 = [(x0, jO 3 [.ref x1, .ref x3, .ref x4, .ref x6, .int (iI wd), .int (iI bl)]), (x1, jO 4 [.ref x2, .int (iI (n : Int))]), (x2, jA E 48 f)])) 0 0 7 [(0, .ref x0), (1, .int (iI (i : Int))), (2, .int (iI (j : Int))), (3, .int (iI ((lsF (tI f) i d0 : Nat) : Int))), (4, .int (iI ((i + d0 + 1 : Nat) : Int)))] [] [(x0, jO 3 [.ref x1, .ref x3, .ref x4, .ref x6, .int (iI wd), .int (iI bl)]), (x1, jO 4 [.ref x2, .int (iI (n : Int))]), (x2, jA E 48 f)] := by
  intro d
  induction d with
  | zero => intros; omega
  | succ d ih =>
    intro d0 hd hk
    have hl0 := lsF_in (tI f) i d0
    refine j_iload 9 dX3_leastPlace_7 rfl ?_
    refine j_iload_2 10 dX3_leastPlace_9 rfl ?_
    refine j_icmp_gt 44 13 dX3_leastPlace_10 (by first | exact iI_rng _ | exact bI_r _ | exact ⟨by omega, by omega⟩) (by first | exact iI_rng _ | exact bI_r _ | exact ⟨by omega, by omega⟩) (fun h10 => ?_) (fun h10 => ?_)
    · have e : d0 = j - i := by omega
      subst e
      refine j_iload_3 45 dX3_leastPlace_44 rfl ?_
      exact j_iret dX3_leastPlace_45 rfl rfl ⟨rfl, rfl⟩
    · have hl := lsF_in (tI f) i d0
      refine j_aload_0 14 dX3_leastPlace_13 rfl ?_
      refine j_get 17 0 gf_X3_12 dX3_leastPlace_14 rfl rfl ?_
      refine j_get 20 1 gf_X3_65 dX3_leastPlace_17 rfl rfl ?_
      refine j_iload 22 dX3_leastPlace_20 rfl ?_
      refine j_iald 23 2 _ dX3_leastPlace_22 rfl rfl rfl (by omega) ?_
      refine j_aload_0 24 dX3_leastPlace_23 rfl ?_
      refine j_get 27 0 gf_X3_12 dX3_leastPlace_24 rfl rfl ?_
      refine j_get 30 1 gf_X3_65 dX3_leastPlace_27 rfl rfl ?_
      refine j_iload_3 31 dX3_leastPlace_30 rfl ?_
      refine j_iald 32 2 _ dX3_leastPlace_31 rfl rfl rfl (by omega) ?_
      refine j_icmp_ge 38 35 dX3_leastPlace_32 (by first | exact iI_rng _ | exact bI_r _ | exact ⟨by omega, by omega⟩) (by first | exact iI_rng _ | exact bI_r _ | exact ⟨by omega, by omega⟩) (fun h32 => ?_) (fun h32 => ?_)
      · have e : lsF (tI f) i (d0 + 1) = lsF (tI f) i d0 := if_neg (by show ¬ (f (i + d0 + 1)).toInt < (f (lsF (tI f) i d0)).toInt; omega)
        refine j_iinc 41 (lv' := [(0, _), (1, _), (2, _), (3, _), (4, _)]) dX3_leastPlace_38 rfl rfl ⟨rfl, rfl⟩ ?_
        refine j_goto 7 dX3_leastPlace_41 ?_
        have h := ih (d0 + 1) (by omega) (by omega)
        rw [e] at h
        exact h
      · have e : lsF (tI f) i (d0 + 1) = i + d0 + 1 := if_pos (by show (f (i + d0 + 1)).toInt < (f (lsF (tI f) i d0)).toInt; omega)
        refine j_iload 37 dX3_leastPlace_35 rfl ?_
        refine j_istore_3 38 (lv' := [(0, _), (1, _), (2, _), (3, _), (4, _)]) dX3_leastPlace_37 rfl ⟨rfl, rfl⟩ ?_
        refine j_iinc 41 (lv' := [(0, _), (1, _), (2, _), (3, _), (4, _)]) dX3_leastPlace_38 rfl rfl ⟨rfl, rfl⟩ ?_
        refine j_goto 7 dX3_leastPlace_41 ?_
        have h := ih (d0 + 1) (by omega) (by omega)
        rw [e] at h
        exact h

set_option maxRecDepth 100000 in
set_option maxHeartbeats 4000000 in
theorem c_X3_leastPlace (E : jD) (x0 x1 x2 x3 x4 x6 : Nat) (wd bl : Int) (n : Nat) (f : Nat → Int32) (i j : Nat) (hj : j < 48) (hij : i ≤ j) : MC E Y_X3_leastPlace [.ref x0, .int (iI (i : Int)), .int (iI (j : Int))] [(x0, jO 3 [.ref x1, .ref x3, .ref x4, .ref x6, .int (iI wd), .int (iI bl)]), (x1, jO 4 [.ref x2, .int (iI (n : Int))]), (x2, jA E 48 f)] (fun r N0 => r = some (.int (iI ((lsF (tI f) i (j - i) : Nat)))) ∧ N0 = [(x0, jO 3 [.ref x1, .ref x3, .ref x4, .ref x6, .int (iI wd), .int (iI bl)]), (x1, jO 4 [.ref x2, .int (iI (n : Int))]), (x2, jA E 48 f)]) := by
  refine MC.of (by decide) rfl rfl ?_
  refine j_iload_1 1 dX3_leastPlace_0 rfl ?_
  refine j_istore_3 2 (lv' := [(0, _), (1, _), (2, _), (3, _)]) dX3_leastPlace_1 rfl ⟨rfl, rfl⟩ ?_
  refine j_iload_1 3 dX3_leastPlace_2 rfl ?_
  refine j_iconst 4 dX3_leastPlace_3 ?_
  refine j_iadd 5 dX3_leastPlace_4 ?_
  refine j_istore 7 (lv' := [(0, _), (1, _), (2, _), (3, _), (4, _)]) dX3_leastPlace_5 rfl ⟨rfl, rfl⟩ ?_
  exact lp_leastPlace E x0 x1 x2 x3 x4 x6 wd bl n f i j hj hij (j - i + 1) 0 (by omega) (by omega)

set_option maxRecDepth 100000 in
set_option maxHeartbeats 4000000 in
theorem lp_leftEdge (E : jD) (x0 x1 x2 x3 x4 x6 : Nat) (wd bl : Int) (n : Nat) (f : Nat → Int32) (i : Nat) (hi : i < 48) : ∀ (d : Nat) (m : Nat), m < d → (m ≤ i) → (lfF (tI f) ((tI f) i) m = lfE (tI f) i) → J E Y_X3_leftEdge (jZm E Y_X3_leftEdge (fun r N0 => r = some (.int (iI (lfE (tI f) i))) ∧ N0 = [(x0, jO 3 [.ref x1, .ref x3, .ref x4, .ref x6, .int (iI wd), .int (iI bl)]), (x1, jO 4 [.ref x2, .int (iI (n : Int))]), (x2, jA E 48 f)])) 0 0 4 [(0, .ref x0), (1, .int (iI (i : Int))), (2, .int (iI ((m : Int) - 1)))] [] [(x0, jO 3 [.ref x1, .ref x3, .ref x4, .ref x6, .int (iI wd), .int (iI bl)]), (x1, jO 4 [.ref x2, .int (iI (n : Int))]), (x2, jA E 48 f)] := by
  intro d
  induction d with
  | zero => intros; omega
  | succ d ih =>
    intro m hd hm he
    refine j_iload_2 5 dX3_leftEdge_4 rfl ?_
    refine j_if_lt 35 8 dX3_leftEdge_5 (by first | exact iI_rng _ | exact bI_r _ | exact ⟨by omega, by omega⟩) (fun h5 => ?_) (fun h5 => ?_)
    · have e : m = 0 := by omega
      subst e
      refine j_iload_2 36 dX3_leftEdge_35 rfl ?_
      exact j_iret dX3_leftEdge_36 rfl rfl ⟨congrArg (fun z => some (Value.int (iI z))) (by rw [← he]; first | rfl | (rw [e2]; omega)), rfl⟩
    · obtain ⟨m, rfl⟩ : ∃ m2, m = m2 + 1 := ⟨m - 1, by omega⟩
      refine j_aload_0 9 dX3_leftEdge_8 rfl ?_
      refine j_get 12 0 gf_X3_12 dX3_leftEdge_9 rfl rfl ?_
      refine j_get 15 1 gf_X3_65 dX3_leftEdge_12 rfl rfl ?_
      refine j_iload_2 16 dX3_leftEdge_15 rfl ?_
      refine j_iald 17 2 (m) dX3_leftEdge_16 rfl rfl (by omega) (by omega) ?_
      refine j_aload_0 18 dX3_leftEdge_17 rfl ?_
      refine j_get 21 0 gf_X3_12 dX3_leftEdge_18 rfl rfl ?_
      refine j_get 24 1 gf_X3_65 dX3_leftEdge_21 rfl rfl ?_
      refine j_iload_1 25 dX3_leftEdge_24 rfl ?_
      refine j_iald 26 2 _ dX3_leftEdge_25 rfl rfl rfl (by omega) ?_
      refine j_icmp_le 35 29 dX3_leftEdge_26 (by first | exact iI_rng _ | exact bI_r _ | exact ⟨by omega, by omega⟩) (by first | exact iI_rng _ | exact bI_r _ | exact ⟨by omega, by omega⟩) (fun h26 => ?_) (fun h26 => ?_)
      · have e2 : lfF (tI f) (tI f i) (m + 1) = (m : Int) := if_neg (by show ¬ (f i).toInt < (f m).toInt; omega)
        refine j_iload_2 36 dX3_leftEdge_35 rfl ?_
        exact j_iret dX3_leftEdge_36 rfl rfl ⟨congrArg (fun z => some (Value.int (iI z))) (by rw [← he]; first | rfl | (rw [e2]; omega)), rfl⟩
      · have e2 : lfF (tI f) (tI f i) (m + 1) = lfF (tI f) (tI f i) m := if_pos (by show (f i).toInt < (f m).toInt; omega)
        refine j_iinc 32 (lv' := [(0, _), (1, _), (2, _)]) dX3_leftEdge_29 rfl rfl ⟨rfl, rfl⟩ ?_
        refine j_goto 4 dX3_leftEdge_32 ?_
        have h := ih m (by omega) (by omega) (by rw [← he, e2])
        rw [show ((m : Nat) : Int) - 1 = ((m + 1 : Nat) : Int) - 1 + -1 by omega] at h
        exact h

set_option maxRecDepth 100000 in
set_option maxHeartbeats 4000000 in
theorem c_X3_leftEdge (E : jD) (x0 x1 x2 x3 x4 x6 : Nat) (wd bl : Int) (n : Nat) (f : Nat → Int32) (i : Nat) (hi : i < 48) : MC E Y_X3_leftEdge [.ref x0, .int (iI (i : Int))] [(x0, jO 3 [.ref x1, .ref x3, .ref x4, .ref x6, .int (iI wd), .int (iI bl)]), (x1, jO 4 [.ref x2, .int (iI (n : Int))]), (x2, jA E 48 f)] (fun r N0 => r = some (.int (iI (lfE (tI f) i))) ∧ N0 = [(x0, jO 3 [.ref x1, .ref x3, .ref x4, .ref x6, .int (iI wd), .int (iI bl)]), (x1, jO 4 [.ref x2, .int (iI (n : Int))]), (x2, jA E 48 f)]) := by
  refine MC.of (by decide) rfl rfl ?_
  refine j_iload_1 1 dX3_leftEdge_0 rfl ?_
  refine j_iconst 2 dX3_leftEdge_1 ?_
  refine j_isub 3 dX3_leftEdge_2 ?_
  refine j_istore_2 4 (lv' := [(0, _), (1, _), (2, _)]) dX3_leftEdge_3 rfl ⟨rfl, rfl⟩ ?_
  exact lp_leftEdge E x0 x1 x2 x3 x4 x6 wd bl n f i hi (i + 1) i (by omega) (by omega) rfl

set_option maxRecDepth 100000 in
set_option maxHeartbeats 4000000 in
theorem lp_rightEdge (E : jD) (x0 x1 x2 x3 x4 x6 : Nat) (wd bl : Int) (n : Nat) (f : Nat → Int32) (hn : n ≤ 48) (i : Nat) (hi : i < n) : ∀ (d : Nat) (k : Nat), n - k < d → (k ≤ n) → (rtF (tI f) ((tI f) i) (n - k) k = rtE (tI f) n i) → J E Y_X3_rightEdge (jZm E Y_X3_rightEdge (fun r N0 => r = some (.int (iI ((rtE (tI f) n i : Nat)))) ∧ N0 = [(x0, jO 3 [.ref x1, .ref x3, .ref x4, .ref x6, .int (iI wd), .int (iI bl)]), (x1, jO 4 [.ref x2, .int (iI (n : Int))]), (x2, jA E 48 f)])) 0 0 4 [(0, .ref x0), (1, .int (iI (i : Int))), (2, .int (iI (k : Int)))] [] [(x0, jO 3 [.ref x1, .ref x3, .ref x4, .ref x6, .int (iI wd), .int (iI bl)]), (x1, jO 4 [.ref x2, .int (iI (n : Int))]), (x2, jA E 48 f)] := by
  intro d
  induction d with
  | zero => intros; omega
  | succ d ih =>
    intro k hd hk he
    refine j_iload_2 5 dX3_rightEdge_4 rfl ?_
    refine j_aload_0 6 dX3_rightEdge_5 rfl ?_
    refine j_get 9 0 gf_X3_12 dX3_rightEdge_6 rfl rfl ?_
    refine j_get 12 1 gf_X3_47 dX3_rightEdge_9 rfl rfl ?_
    refine j_icmp_ge 42 15 dX3_rightEdge_12 (by first | exact iI_rng _ | exact bI_r _ | exact ⟨by omega, by omega⟩) (by first | exact iI_rng _ | exact bI_r _ | exact ⟨by omega, by omega⟩) (fun h12 => ?_) (fun h12 => ?_)
    · have e : k = n := by omega
      subst e
      rw [Nat.sub_self] at he
      refine j_iload_2 43 dX3_rightEdge_42 rfl ?_
      exact j_iret dX3_rightEdge_43 rfl rfl ⟨congrArg (fun z => some (Value.int (iI z))) (by rw [← he]; first | rfl | rw [e2]), rfl⟩
    · obtain ⟨c, hc⟩ : ∃ c, n - k = c + 1 := ⟨n - k - 1, by omega⟩
      rw [hc] at he
      refine j_aload_0 16 dX3_rightEdge_15 rfl ?_
      refine j_get 19 0 gf_X3_12 dX3_rightEdge_16 rfl rfl ?_
      refine j_get 22 1 gf_X3_65 dX3_rightEdge_19 rfl rfl ?_
      refine j_iload_2 23 dX3_rightEdge_22 rfl ?_
      refine j_iald 24 2 _ dX3_rightEdge_23 rfl rfl rfl (by omega) ?_
      refine j_aload_0 25 dX3_rightEdge_24 rfl ?_
      refine j_get 28 0 gf_X3_12 dX3_rightEdge_25 rfl rfl ?_
      refine j_get 31 1 gf_X3_65 dX3_rightEdge_28 rfl rfl ?_
      refine j_iload_1 32 dX3_rightEdge_31 rfl ?_
      refine j_iald 33 2 _ dX3_rightEdge_32 rfl rfl rfl (by omega) ?_
      refine j_icmp_lt 42 36 dX3_rightEdge_33 (by first | exact iI_rng _ | exact bI_r _ | exact ⟨by omega, by omega⟩) (by first | exact iI_rng _ | exact bI_r _ | exact ⟨by omega, by omega⟩) (fun h33 => ?_) (fun h33 => ?_)
      · have e2 : rtF (tI f) (tI f i) (c + 1) k = k := if_neg (by show ¬ (f i).toInt ≤ (f k).toInt; omega)
        refine j_iload_2 43 dX3_rightEdge_42 rfl ?_
        exact j_iret dX3_rightEdge_43 rfl rfl ⟨congrArg (fun z => some (Value.int (iI z))) (by rw [← he]; first | rfl | rw [e2]), rfl⟩
      · have e2 : rtF (tI f) (tI f i) (c + 1) k = rtF (tI f) (tI f i) c (k + 1) := if_pos (by show (f i).toInt ≤ (f k).toInt; omega)
        refine j_iinc 39 (lv' := [(0, _), (1, _), (2, _)]) dX3_rightEdge_36 rfl rfl ⟨rfl, rfl⟩ ?_
        refine j_goto 4 dX3_rightEdge_39 ?_
        exact ih (k + 1) (by omega) (by omega) (by rw [show n - (k + 1) = c by omega, ← e2, he])

set_option maxRecDepth 100000 in
set_option maxHeartbeats 4000000 in
theorem c_X3_rightEdge (E : jD) (x0 x1 x2 x3 x4 x6 : Nat) (wd bl : Int) (n : Nat) (f : Nat → Int32) (i : Nat) (hn : n ≤ 48) (hi : i < n) : MC E Y_X3_rightEdge [.ref x0, .int (iI (i : Int))] [(x0, jO 3 [.ref x1, .ref x3, .ref x4, .ref x6, .int (iI wd), .int (iI bl)]), (x1, jO 4 [.ref x2, .int (iI (n : Int))]), (x2, jA E 48 f)] (fun r N0 => r = some (.int (iI ((rtE (tI f) n i : Nat)))) ∧ N0 = [(x0, jO 3 [.ref x1, .ref x3, .ref x4, .ref x6, .int (iI wd), .int (iI bl)]), (x1, jO 4 [.ref x2, .int (iI (n : Int))]), (x2, jA E 48 f)]) := by
  refine MC.of (by decide) rfl rfl ?_
  refine j_iload_1 1 dX3_rightEdge_0 rfl ?_
  refine j_iconst 2 dX3_rightEdge_1 ?_
  refine j_iadd 3 dX3_rightEdge_2 ?_
  refine j_istore_2 4 (lv' := [(0, _), (1, _), (2, _)]) dX3_rightEdge_3 rfl ⟨rfl, rfl⟩ ?_
  exact lp_rightEdge E x0 x1 x2 x3 x4 x6 wd bl n f hn i hi (n + 1) (i + 1) (by omega) (by omega) rfl

set_option maxRecDepth 100000 in
set_option maxHeartbeats 4000000 in
theorem c_X3_runsOwned (E : jD) (x0 x1 x2 x3 x4 x6 : Nat) (wd bl : Int) (n : Nat) (f : Nat → Int32) (i : Nat) (hn : n ≤ 48) (hi : i < n) : MC E Y_X3_runsOwned [.ref x0, .int (iI (i : Int))] [(x0, jO 3 [.ref x1, .ref x3, .ref x4, .ref x6, .int (iI wd), .int (iI bl)]), (x1, jO 4 [.ref x2, .int (iI (n : Int))]), (x2, jA E 48 f)] (fun r N0 => r = some (.int (iI (ownF (tI f) n i))) ∧ N0 = [(x0, jO 3 [.ref x1, .ref x3, .ref x4, .ref x6, .int (iI wd), .int (iI bl)]), (x1, jO 4 [.ref x2, .int (iI (n : Int))]), (x2, jA E 48 f)]) := by
  refine MC.of (by decide) rfl rfl ?_
  refine j_iload_1 1 dX3_runsOwned_0 rfl ?_
  refine j_aload_0 2 dX3_runsOwned_1 rfl ?_
  refine j_iload_1 3 dX3_runsOwned_2 rfl ?_
  refine j_callVi 6 Y_X3_leftEdge [0, 1, 2] [_] (c_X3_leftEdge E _ _ _ _ _ _ _ _ _ _ _ (by omega)) m_X3_leftEdge wml_X3_91 dX3_runsOwned_3 0 rfl rfl rfl rfl rfl rfl rfl rfl rfl rfl ?_
  refine j_isub 7 dX3_runsOwned_6 ?_
  refine j_aload_0 8 dX3_runsOwned_7 rfl ?_
  refine j_iload_1 9 dX3_runsOwned_8 rfl ?_
  refine j_callVi 12 Y_X3_rightEdge [0, 1, 2] [_] (c_X3_rightEdge E _ _ _ _ _ _ _ _ _ _ _ hn (by omega)) m_X3_rightEdge wml_X3_94 dX3_runsOwned_9 0 rfl rfl rfl rfl rfl rfl rfl rfl rfl rfl ?_
  refine j_iload_1 13 dX3_runsOwned_12 rfl ?_
  refine j_isub 14 dX3_runsOwned_13 ?_
  refine j_imul 15 dX3_runsOwned_14 ?_
  exact j_iret dX3_runsOwned_15 rfl rfl ⟨rfl, rfl⟩

set_option maxRecDepth 100000 in
set_option maxHeartbeats 4000000 in
theorem c_X3_parentPlace (E : jD) (x0 x1 x2 x3 x4 x6 : Nat) (wd bl : Int) (n : Nat) (f : Nat → Int32) (i : Nat) (hn : n ≤ 48) (hi : i < n) : MC E Y_X3_parentPlace [.ref x0, .int (iI (i : Int))] [(x0, jO 3 [.ref x1, .ref x3, .ref x4, .ref x6, .int (iI wd), .int (iI bl)]), (x1, jO 4 [.ref x2, .int (iI (n : Int))]), (x2, jA E 48 f)] (fun r N0 => r = some (.int (iI (paF (tI f) n i))) ∧ N0 = [(x0, jO 3 [.ref x1, .ref x3, .ref x4, .ref x6, .int (iI wd), .int (iI bl)]), (x1, jO 4 [.ref x2, .int (iI (n : Int))]), (x2, jA E 48 f)]) := by
  refine MC.of (by decide) rfl rfl ?_
  have h1 := lfE_in (tI f) i
  have h2 := rtE_in (tI f) hi
  refine j_aload_0 1 dX3_parentPlace_0 rfl ?_
  refine j_iload_1 2 dX3_parentPlace_1 rfl ?_
  refine j_callVi 5 Y_X3_leftEdge [0, 1, 2] [_] (c_X3_leftEdge E _ _ _ _ _ _ _ _ _ _ _ (by omega)) m_X3_leftEdge wml_X3_91 dX3_parentPlace_2 0 rfl rfl rfl rfl rfl rfl rfl rfl rfl rfl ?_
  refine j_istore_2 6 (lv' := [(0, _), (1, _), (2, _)]) dX3_parentPlace_5 rfl ⟨rfl, rfl⟩ ?_
  refine j_aload_0 7 dX3_parentPlace_6 rfl ?_
  refine j_iload_1 8 dX3_parentPlace_7 rfl ?_
  refine j_callVi 11 Y_X3_rightEdge [0, 1, 2] [_] (c_X3_rightEdge E _ _ _ _ _ _ _ _ _ _ _ hn (by omega)) m_X3_rightEdge wml_X3_94 dX3_parentPlace_8 0 rfl rfl rfl rfl rfl rfl rfl rfl rfl rfl ?_
  refine j_istore_3 12 (lv' := [(0, _), (1, _), (2, _), (3, _)]) dX3_parentPlace_11 rfl ⟨rfl, rfl⟩ ?_
  refine j_iload_3 13 dX3_parentPlace_12 rfl ?_
  refine j_aload_0 14 dX3_parentPlace_13 rfl ?_
  refine j_get 17 0 gf_X3_12 dX3_parentPlace_14 rfl rfl ?_
  refine j_get 20 1 gf_X3_47 dX3_parentPlace_17 rfl rfl ?_
  refine j_icmp_lt 34 23 dX3_parentPlace_20 (by first | exact iI_rng _ | exact bI_r _ | exact ⟨by omega, by omega⟩) (by first | exact iI_rng _ | exact bI_r _ | exact ⟨by omega, by omega⟩) (fun h20 => ?_) (fun h20 => ?_)
  · refine j_iload_2 35 dX3_parentPlace_34 rfl ?_
    refine j_if_ge 40 38 dX3_parentPlace_35 (by first | exact iI_rng _ | exact bI_r _ | exact ⟨by omega, by omega⟩) (fun h35 => ?_) (fun h35 => ?_)
    · refine j_aload_0 41 dX3_parentPlace_40 rfl ?_
      refine j_get 44 0 gf_X3_12 dX3_parentPlace_41 rfl rfl ?_
      refine j_get 47 1 gf_X3_65 dX3_parentPlace_44 rfl rfl ?_
      refine j_iload_2 48 dX3_parentPlace_47 rfl ?_
      refine j_iald 49 2 ((lfE (tI f) i).toNat) dX3_parentPlace_48 rfl rfl (by omega) (by omega) ?_
      refine j_aload_0 50 dX3_parentPlace_49 rfl ?_
      refine j_get 53 0 gf_X3_12 dX3_parentPlace_50 rfl rfl ?_
      refine j_get 56 1 gf_X3_65 dX3_parentPlace_53 rfl rfl ?_
      refine j_iload_3 57 dX3_parentPlace_56 rfl ?_
      refine j_iald 58 2 _ dX3_parentPlace_57 rfl rfl rfl (by omega) ?_
      refine j_icmp_le 65 61 dX3_parentPlace_58 (by first | exact iI_rng _ | exact bI_r _ | exact ⟨by omega, by omega⟩) (by first | exact iI_rng _ | exact bI_r _ | exact ⟨by omega, by omega⟩) (fun h58 => ?_) (fun h58 => ?_)
      · refine j_iload_3 66 dX3_parentPlace_65 rfl ?_
        exact j_iret dX3_parentPlace_66 rfl rfl ⟨congrArg (fun z => some (Value.int (iI z))) (by unfold paF pick; rw [if_neg (by omega), if_neg (by omega)]; first | exact (if_pos (show (f (rtE (tI f) n i)).toInt < (f (lfE (tI f) i).toNat).toInt by omega)).symm | exact (if_neg (show ¬ (f (rtE (tI f) n i)).toInt < (f (lfE (tI f) i).toNat).toInt by omega)).symm), rfl⟩
      · refine j_iload_2 62 dX3_parentPlace_61 rfl ?_
        refine j_goto 66 dX3_parentPlace_62 ?_
        exact j_iret dX3_parentPlace_66 rfl rfl ⟨congrArg (fun z => some (Value.int (iI z))) (by unfold paF pick; rw [if_neg (by omega), if_neg (by omega)]; first | exact (if_pos (show (f (rtE (tI f) n i)).toInt < (f (lfE (tI f) i).toNat).toInt by omega)).symm | exact (if_neg (show ¬ (f (rtE (tI f) n i)).toInt < (f (lfE (tI f) i).toNat).toInt by omega)).symm), rfl⟩
    · refine j_iload_3 39 dX3_parentPlace_38 rfl ?_
      exact j_iret dX3_parentPlace_39 rfl rfl ⟨congrArg (fun z => some (Value.int (iI z))) (by unfold paF pick; rw [if_neg (by omega), if_pos (by omega)]), rfl⟩
  · refine j_iload_2 24 dX3_parentPlace_23 rfl ?_
    refine j_if_ge 32 27 dX3_parentPlace_24 (by first | exact iI_rng _ | exact bI_r _ | exact ⟨by omega, by omega⟩) (fun h24 => ?_) (fun h24 => ?_)
    · refine j_iload_2 33 dX3_parentPlace_32 rfl ?_
      exact j_iret dX3_parentPlace_33 rfl rfl ⟨congrArg (fun z => some (Value.int (iI z))) (by unfold paF pick; rw [if_pos (by omega)]; first | rw [if_pos (by omega)] | rw [if_neg (by omega)]), rfl⟩
    · refine j_bipush 29 dX3_parentPlace_27 (by decide +kernel) ?_
      refine j_goto 33 dX3_parentPlace_29 ?_
      exact j_iret dX3_parentPlace_33 rfl rfl ⟨congrArg (fun z => some (Value.int (iI z))) (by unfold paF pick; rw [if_pos (by omega)]; first | rw [if_pos (by omega)] | rw [if_neg (by omega)]), rfl⟩

set_option maxRecDepth 100000 in
set_option maxHeartbeats 4000000 in
theorem lp_depthOf (E : jD) (x0 x1 x2 x3 x4 x6 : Nat) (wd bl : Int) (n : Nat) (f : Nat → Int32) (hn : n ≤ 48) (i : Nat) : ∀ (d : Nat) (s : Nat) (p : Int), n - s < d → (s ≤ n) → ((p = -9 ∨ (0 ≤ p ∧ p < n))) → (s + dpF (tI f) n (n - s) p = dpF (tI f) n n (paF (tI f) n i)) → J E Y_X3_depthOf (jZm E Y_X3_depthOf (fun r N0 => r = some (.int (iI ((dpF (tI f) n n (paF (tI f) n i) : Nat)))) ∧ N0 = [(x0, jO 3 [.ref x1, .ref x3, .ref x4, .ref x6, .int (iI wd), .int (iI bl)]), (x1, jO 4 [.ref x2, .int (iI (n : Int))]), (x2, jA E 48 f)])) 0 0 8 [(0, .ref x0), (1, .int (iI (i : Int))), (2, .int (iI (s : Int))), (3, .int (iI p))] [] [(x0, jO 3 [.ref x1, .ref x3, .ref x4, .ref x6, .int (iI wd), .int (iI bl)]), (x1, jO 4 [.ref x2, .int (iI (n : Int))]), (x2, jA E 48 f)] := by
  intro d
  induction d with
  | zero => intros; omega
  | succ d ih =>
    intro s p hd hs hp he
    refine j_iload_2 9 dX3_depthOf_8 rfl ?_
    refine j_aload_0 10 dX3_depthOf_9 rfl ?_
    refine j_get 13 0 gf_X3_12 dX3_depthOf_10 rfl rfl ?_
    refine j_get 16 1 gf_X3_47 dX3_depthOf_13 rfl rfl ?_
    refine j_icmp_ge 37 19 dX3_depthOf_16 (by first | exact iI_rng _ | exact bI_r _ | exact ⟨by omega, by omega⟩) (by first | exact iI_rng _ | exact bI_r _ | exact ⟨by omega, by omega⟩) (fun h16 => ?_) (fun h16 => ?_)
    · have e : s = n := by omega
      subst e
      rw [Nat.sub_self] at he
      refine j_iload_2 38 dX3_depthOf_37 rfl ?_
      exact j_iret dX3_depthOf_38 rfl rfl ⟨congrArg (fun z => some (Value.int (iI z))) (by rw [← he]; rfl), rfl⟩
    · obtain ⟨c, hc⟩ : ∃ c, n - s = c + 1 := ⟨n - s - 1, by omega⟩
      rw [hc] at he
      refine j_iload_3 20 dX3_depthOf_19 rfl ?_
      refine j_bipush 22 dX3_depthOf_20 (by decide +kernel) ?_
      refine j_icmp_eq 37 25 dX3_depthOf_22 (by first | exact iI_rng _ | exact bI_r _ | exact ⟨by omega, by omega⟩) (by first | exact iI_rng _ | exact bI_r _ | exact ⟨by omega, by omega⟩) (fun h22 => ?_) (fun h22 => ?_)
      · subst h22
        refine j_iload_2 38 dX3_depthOf_37 rfl ?_
        exact j_iret dX3_depthOf_38 rfl rfl ⟨congrArg (fun z => some (Value.int (iI z))) (by rw [← he]; rfl), rfl⟩
      · obtain ⟨p, rfl⟩ : ∃ q : Nat, p = (q : Int) := ⟨p.toNat, by omega⟩
        have hpi := paF_in (tI f) (show p < n by omega)
        have e2 : dpF (tI f) n (c + 1) (p : Int) = dpF (tI f) n c (paF (tI f) n p) + 1 := if_neg h22
        refine j_aload_0 26 dX3_depthOf_25 rfl ?_
        refine j_iload_3 27 dX3_depthOf_26 rfl ?_
        refine j_callVi 30 Y_X3_parentPlace [0, 1, 2] [_] (c_X3_parentPlace E _ _ _ _ _ _ _ _ _ _ _ hn (by omega)) m_X3_parentPlace wml_X3_97 dX3_depthOf_27 0 rfl rfl rfl rfl rfl rfl rfl rfl rfl rfl ?_
        refine j_istore_3 31 (lv' := [(0, _), (1, _), (2, _), (3, _)]) dX3_depthOf_30 rfl ⟨rfl, rfl⟩ ?_
        refine j_iinc 34 (lv' := [(0, _), (1, _), (2, _), (3, _)]) dX3_depthOf_31 rfl rfl ⟨rfl, rfl⟩ ?_
        refine j_goto 8 dX3_depthOf_34 ?_
        exact ih (s + 1) _ (by omega) (by omega) hpi (by rw [show n - (s + 1) = c by omega, ← he, e2]; omega)

set_option maxRecDepth 100000 in
set_option maxHeartbeats 4000000 in
theorem c_X3_depthOf (E : jD) (x0 x1 x2 x3 x4 x6 : Nat) (wd bl : Int) (n : Nat) (f : Nat → Int32) (i : Nat) (hn : n ≤ 48) (hi : i < n) : MC E Y_X3_depthOf [.ref x0, .int (iI (i : Int))] [(x0, jO 3 [.ref x1, .ref x3, .ref x4, .ref x6, .int (iI wd), .int (iI bl)]), (x1, jO 4 [.ref x2, .int (iI (n : Int))]), (x2, jA E 48 f)] (fun r N0 => r = some (.int (iI ((dpF (tI f) n n (paF (tI f) n i) : Nat)))) ∧ N0 = [(x0, jO 3 [.ref x1, .ref x3, .ref x4, .ref x6, .int (iI wd), .int (iI bl)]), (x1, jO 4 [.ref x2, .int (iI (n : Int))]), (x2, jA E 48 f)]) := by
  refine MC.of (by decide) rfl rfl ?_
  refine j_iconst 1 dX3_depthOf_0 ?_
  refine j_istore_2 2 (lv' := [(0, _), (1, _), (2, _)]) dX3_depthOf_1 rfl ⟨rfl, rfl⟩ ?_
  refine j_aload_0 3 dX3_depthOf_2 rfl ?_
  refine j_iload_1 4 dX3_depthOf_3 rfl ?_
  refine j_callVi 7 Y_X3_parentPlace [0, 1, 2] [_] (c_X3_parentPlace E _ _ _ _ _ _ _ _ _ _ _ hn (by omega)) m_X3_parentPlace wml_X3_97 dX3_depthOf_4 0 rfl rfl rfl rfl rfl rfl rfl rfl rfl rfl ?_
  refine j_istore_3 8 (lv' := [(0, _), (1, _), (2, _), (3, _)]) dX3_depthOf_7 rfl ⟨rfl, rfl⟩ ?_
  exact lp_depthOf E x0 x1 x2 x3 x4 x6 wd bl n f hn i (n + 1) 0 _ (by omega) (by omega) (paF_in (tI f) hi) (by rw [Nat.zero_add, Nat.sub_zero])

set_option maxRecDepth 100000 in
set_option maxHeartbeats 4000000 in
theorem lp_ancestor (E : jD) (x0 x1 x2 x3 x4 x6 : Nat) (wd bl : Int) (n : Nat) (f : Nat → Int32) (hn : n ≤ 48) (i : Nat) (D : Nat) (dd : Int) (hD : D ≤ n) : ∀ (d : Nat) (s : Nat) (p : Int), D - s < d → (s ≤ D) → ((p = -9 ∨ (0 ≤ p ∧ p < n))) → (anF (tI f) n (D - s) p = anF (tI f) n D i) → J E Y_X3_ancestor (jZm E Y_X3_ancestor (fun r N0 => r = some (.int (iI (anF (tI f) n D i))) ∧ N0 = [(x0, jO 3 [.ref x1, .ref x3, .ref x4, .ref x6, .int (iI wd), .int (iI bl)]), (x1, jO 4 [.ref x2, .int (iI (n : Int))]), (x2, jA E 48 f)])) 0 0 18 [(0, .ref x0), (1, .int (iI (i : Int))), (2, .int (iI dd)), (3, .int (iI (D : Int))), (4, .int (iI p)), (5, .int (iI (s : Int)))] [] [(x0, jO 3 [.ref x1, .ref x3, .ref x4, .ref x6, .int (iI wd), .int (iI bl)]), (x1, jO 4 [.ref x2, .int (iI (n : Int))]), (x2, jA E 48 f)] := by
  intro d
  induction d with
  | zero => intros; omega
  | succ d ih =>
    intro s p hd hs hp he
    refine j_iload 20 dX3_ancestor_18 rfl ?_
    refine j_iload_3 21 dX3_ancestor_20 rfl ?_
    refine j_icmp_ge 45 24 dX3_ancestor_21 (by first | exact iI_rng _ | exact bI_r _ | exact ⟨by omega, by omega⟩) (by first | exact iI_rng _ | exact bI_r _ | exact ⟨by omega, by omega⟩) (fun h21 => ?_) (fun h21 => ?_)
    · have e : s = D := by omega
      subst e
      rw [Nat.sub_self] at he
      refine j_iload 47 dX3_ancestor_45 rfl ?_
      exact j_iret dX3_ancestor_47 rfl rfl ⟨congrArg (fun z => some (Value.int (iI z))) (by rw [← he]; rfl), rfl⟩
    · obtain ⟨c, hc⟩ : ∃ c, D - s = c + 1 := ⟨D - s - 1, by omega⟩
      rw [hc] at he
      refine j_iload 26 dX3_ancestor_24 rfl ?_
      refine j_bipush 28 dX3_ancestor_26 (by decide +kernel) ?_
      refine j_icmp_eq 45 31 dX3_ancestor_28 (by first | exact iI_rng _ | exact bI_r _ | exact ⟨by omega, by omega⟩) (by first | exact iI_rng _ | exact bI_r _ | exact ⟨by omega, by omega⟩) (fun h28 => ?_) (fun h28 => ?_)
      · subst h28
        refine j_iload 47 dX3_ancestor_45 rfl ?_
        exact j_iret dX3_ancestor_47 rfl rfl ⟨congrArg (fun z => some (Value.int (iI z))) (by rw [← he]; rfl), rfl⟩
      · obtain ⟨p, rfl⟩ : ∃ q : Nat, p = (q : Int) := ⟨p.toNat, by omega⟩
        have hpi := paF_in (tI f) (show p < n by omega)
        have e2 : anF (tI f) n (c + 1) (p : Int) = anF (tI f) n c (paF (tI f) n p) := if_neg h28
        refine j_aload_0 32 dX3_ancestor_31 rfl ?_
        refine j_iload 34 dX3_ancestor_32 rfl ?_
        refine j_callVi 37 Y_X3_parentPlace [0, 1, 2] [_] (c_X3_parentPlace E _ _ _ _ _ _ _ _ _ _ _ hn (by omega)) m_X3_parentPlace wml_X3_97 dX3_ancestor_34 0 rfl rfl rfl rfl rfl rfl rfl rfl rfl rfl ?_
        refine j_istore 39 (lv' := [(0, _), (1, _), (2, _), (3, _), (4, _), (5, _)]) dX3_ancestor_37 rfl ⟨rfl, rfl⟩ ?_
        refine j_iinc 42 (lv' := [(0, _), (1, _), (2, _), (3, _), (4, _), (5, _)]) dX3_ancestor_39 rfl rfl ⟨rfl, rfl⟩ ?_
        refine j_goto 18 dX3_ancestor_42 ?_
        exact ih (s + 1) _ (by omega) (by omega) hpi (by rw [show D - (s + 1) = c by omega, ← he, e2])

set_option maxRecDepth 100000 in
set_option maxHeartbeats 4000000 in
theorem c_X3_ancestor (E : jD) (x0 x1 x2 x3 x4 x6 : Nat) (wd bl : Int) (n : Nat) (f : Nat → Int32) (i : Nat) (dd : Int) (hn : n ≤ 48) (hi : i < n) (hd : 0 ≤ dd) (hr : jr dd) : MC E Y_X3_ancestor [.ref x0, .int (iI (i : Int)), .int (iI dd)] [(x0, jO 3 [.ref x1, .ref x3, .ref x4, .ref x6, .int (iI wd), .int (iI bl)]), (x1, jO 4 [.ref x2, .int (iI (n : Int))]), (x2, jA E 48 f)] (fun r N0 => r = some (.int (iI (anF (tI f) n (min dd.toNat n) i))) ∧ N0 = [(x0, jO 3 [.ref x1, .ref x3, .ref x4, .ref x6, .int (iI wd), .int (iI bl)]), (x1, jO 4 [.ref x2, .int (iI (n : Int))]), (x2, jA E 48 f)]) := by
  refine MC.of (by decide) rfl rfl ?_
  refine j_iload_2 1 dX3_ancestor_0 rfl ?_
  refine j_aload_0 2 dX3_ancestor_1 rfl ?_
  refine j_get 5 0 gf_X3_12 dX3_ancestor_2 rfl rfl ?_
  refine j_get 8 1 gf_X3_47 dX3_ancestor_5 rfl rfl ?_
  refine j_min 11 wml_X3_68 dX3_ancestor_8 (by first | exact iI_rng _ | exact bI_r _ | exact ⟨by omega, by omega⟩) (by first | exact iI_rng _ | exact bI_r _ | exact ⟨by omega, by omega⟩) rfl ?_
  refine j_top ((min dd.toNat n : Nat) : Int) (congrArg iI (by omega)) ?_
  refine j_istore_3 12 (lv' := [(0, _), (1, _), (2, _), (3, _)]) dX3_ancestor_11 rfl ⟨rfl, rfl⟩ ?_
  refine j_iload_1 13 dX3_ancestor_12 rfl ?_
  refine j_istore 15 (lv' := [(0, _), (1, _), (2, _), (3, _), (4, _)]) dX3_ancestor_13 rfl ⟨rfl, rfl⟩ ?_
  refine j_iconst 16 dX3_ancestor_15 ?_
  refine j_istore 18 (lv' := [(0, _), (1, _), (2, _), (3, _), (4, _), (5, _)]) dX3_ancestor_16 rfl ⟨rfl, rfl⟩ ?_
  exact lp_ancestor E x0 x1 x2 x3 x4 x6 wd bl n f hn i (min dd.toNat n) dd (by omega) (n + 1) 0 _ (by omega) (by omega) (Or.inr ⟨by omega, by omega⟩) (by rw [Nat.sub_zero])

set_option maxRecDepth 100000 in
set_option maxHeartbeats 4000000 in
theorem c_X3_stepsToLeftWithin (E : jD) (x0 x1 x2 x3 x4 x6 : Nat) (wd bl : Int) (n : Nat) (f : Nat → Int32) (a p : Nat) (ha : a ≤ 48) (hp : p < 48) : MC E Y_X3_stepsToLeftWithin [.ref x0, .int (iI (a : Int)), .int (iI (p : Int))] [(x0, jO 3 [.ref x1, .ref x3, .ref x4, .ref x6, .int (iI wd), .int (iI bl)]), (x1, jO 4 [.ref x2, .int (iI (n : Int))]), (x2, jA E 48 f)] (fun r N0 => r = some (.int (iI (stF (tI f) a p))) ∧ N0 = [(x0, jO 3 [.ref x1, .ref x3, .ref x4, .ref x6, .int (iI wd), .int (iI bl)]), (x1, jO 4 [.ref x2, .int (iI (n : Int))]), (x2, jA E 48 f)]) := by
  refine MC.of (by decide) rfl rfl ?_
  have h1 := lfE_in (tI f) p
  refine j_iload_2 1 dX3_stepsToLeftWithin_0 rfl ?_
  refine j_iload_1 2 dX3_stepsToLeftWithin_1 rfl ?_
  refine j_iconst 3 dX3_stepsToLeftWithin_2 ?_
  refine j_isub 4 dX3_stepsToLeftWithin_3 ?_
  refine j_aload_0 5 dX3_stepsToLeftWithin_4 rfl ?_
  refine j_iload_2 6 dX3_stepsToLeftWithin_5 rfl ?_
  refine j_callVi 9 Y_X3_leftEdge [0, 1, 2] [_] (c_X3_leftEdge E _ _ _ _ _ _ _ _ _ _ _ (by omega)) m_X3_leftEdge wml_X3_91 dX3_stepsToLeftWithin_6 0 rfl rfl rfl rfl rfl rfl rfl rfl rfl rfl ?_
  refine j_max 12 wml_X3_77 dX3_stepsToLeftWithin_9 (by first | exact iI_rng _ | exact bI_r _ | exact ⟨by omega, by omega⟩) (by first | exact iI_rng _ | exact bI_r _ | exact ⟨by omega, by omega⟩) rfl ?_
  refine j_isub 13 dX3_stepsToLeftWithin_12 ?_
  exact j_iret dX3_stepsToLeftWithin_13 rfl rfl ⟨rfl, rfl⟩

theorem stF_in (g : Nat → Int) (a p : Nat) : -1 - (a : Int) ≤ stF g a p ∧ stF g a p ≤ (p : Int) + 1 := by
  have h1 := lfE_in g p
  unfold stF
  omega

set_option maxRecDepth 100000 in
set_option maxHeartbeats 4000000 in
theorem lp_areAlike (E : jD) (x0 x1 x2 x3 x4 x6 : Nat) (wd bl : Int) (n : Nat) (f : Nat → Int32) (i j m : Nat) (hi : i + m ≤ 48) (hj : j + m ≤ 48) : ∀ (d : Nat) (c : Nat), m - c < d → (c ≤ m) → (∀ k, k < c → stF (tI f) i (i + k) = stF (tI f) j (j + k)) → J E Y_X3_areAlike (jZm E Y_X3_areAlike (fun r N0 => r = some (.int (iI (bI (∀ k, k < m → stF (tI f) i (i + k) = stF (tI f) j (j + k))))) ∧ N0 = [(x0, jO 3 [.ref x1, .ref x3, .ref x4, .ref x6, .int (iI wd), .int (iI bl)]), (x1, jO 4 [.ref x2, .int (iI (n : Int))]), (x2, jA E 48 f)])) 0 0 3 [(0, .ref x0), (1, .int (iI (i : Int))), (2, .int (iI (j : Int))), (3, .int (iI (m : Int))), (4, .int (iI (c : Int)))] [] [(x0, jO 3 [.ref x1, .ref x3, .ref x4, .ref x6, .int (iI wd), .int (iI bl)]), (x1, jO 4 [.ref x2, .int (iI (n : Int))]), (x2, jA E 48 f)] := by
  intro d
  induction d with
  | zero => intros; omega
  | succ d ih =>
    intro c hd hc he
    refine j_iload 5 dX3_areAlike_3 rfl ?_
    refine j_iload_3 6 dX3_areAlike_5 rfl ?_
    refine j_icmp_ge 38 9 dX3_areAlike_6 (by first | exact iI_rng _ | exact bI_r _ | exact ⟨by omega, by omega⟩) (by first | exact iI_rng _ | exact bI_r _ | exact ⟨by omega, by omega⟩) (fun h6 => ?_) (fun h6 => ?_)
    · have e : c = m := by omega
      subst e
      refine j_iconst 39 dX3_areAlike_38 ?_
      exact j_zret (by first | exact bI_n _ | decide +kernel) dX3_areAlike_39 rfl rfl ⟨congrArg (fun z => some (Value.int (iI z))) ((bI_t he).symm), rfl⟩
    · refine j_aload_0 10 dX3_areAlike_9 rfl ?_
      refine j_iload_1 11 dX3_areAlike_10 rfl ?_
      refine j_iload_1 12 dX3_areAlike_11 rfl ?_
      refine j_iload 14 dX3_areAlike_12 rfl ?_
      refine j_iadd 15 dX3_areAlike_14 ?_
      refine j_callVi 18 Y_X3_stepsToLeftWithin [0, 1, 2] [_, _] (c_X3_stepsToLeftWithin E _ _ _ _ _ _ _ _ _ _ i (i + c) (by omega) (by omega)) m_X3_stepsToLeftWithin wml_X3_100 dX3_areAlike_15 0 rfl rfl rfl rfl rfl rfl rfl rfl rfl rfl ?_
      refine j_aload_0 19 dX3_areAlike_18 rfl ?_
      refine j_iload_2 20 dX3_areAlike_19 rfl ?_
      refine j_iload_2 21 dX3_areAlike_20 rfl ?_
      refine j_iload 23 dX3_areAlike_21 rfl ?_
      refine j_iadd 24 dX3_areAlike_23 ?_
      refine j_callVi 27 Y_X3_stepsToLeftWithin [0, 1, 2] [_, _] (c_X3_stepsToLeftWithin E _ _ _ _ _ _ _ _ _ _ j (j + c) (by omega) (by omega)) m_X3_stepsToLeftWithin wml_X3_100 dX3_areAlike_24 0 rfl rfl rfl rfl rfl rfl rfl rfl rfl rfl ?_
      refine j_icmp_eq 32 30 dX3_areAlike_27 (by have := stF_in (tI f) i (i + c); exact ⟨by omega, by omega⟩) (by have := stF_in (tI f) j (j + c); exact ⟨by omega, by omega⟩) (fun h27 => ?_) (fun h27 => ?_)
      · refine j_iinc 35 (lv' := [(0, _), (1, _), (2, _), (3, _), (4, _)]) dX3_areAlike_32 rfl rfl ⟨rfl, rfl⟩ ?_
        refine j_goto 3 dX3_areAlike_35 ?_
        exact ih (c + 1) (by omega) (by omega) (fun k hk => by
          by_cases hkc : k = c
          · subst hkc; exact h27
          · exact he k (by omega))
      · refine j_iconst 31 dX3_areAlike_30 ?_
        exact j_zret (by first | exact bI_n _ | decide +kernel) dX3_areAlike_31 rfl rfl ⟨congrArg (fun z => some (Value.int (iI z))) ((bI_f (fun q => h27 (q c (by omega)))).symm), rfl⟩

set_option maxRecDepth 100000 in
set_option maxHeartbeats 4000000 in
theorem c_X3_areAlike (E : jD) (x0 x1 x2 x3 x4 x6 : Nat) (wd bl : Int) (n : Nat) (f : Nat → Int32) (i j m : Nat) (hi : i + m ≤ 48) (hj : j + m ≤ 48) : MC E Y_X3_areAlike [.ref x0, .int (iI (i : Int)), .int (iI (j : Int)), .int (iI (m : Int))] [(x0, jO 3 [.ref x1, .ref x3, .ref x4, .ref x6, .int (iI wd), .int (iI bl)]), (x1, jO 4 [.ref x2, .int (iI (n : Int))]), (x2, jA E 48 f)] (fun r N0 => r = some (.int (iI (bI (∀ k, k < m → stF (tI f) i (i + k) = stF (tI f) j (j + k))))) ∧ N0 = [(x0, jO 3 [.ref x1, .ref x3, .ref x4, .ref x6, .int (iI wd), .int (iI bl)]), (x1, jO 4 [.ref x2, .int (iI (n : Int))]), (x2, jA E 48 f)]) := by
  refine MC.of (by decide) rfl rfl ?_
  refine j_iconst 1 dX3_areAlike_0 ?_
  refine j_istore 3 (lv' := [(0, _), (1, _), (2, _), (3, _), (4, _)]) dX3_areAlike_1 rfl ⟨rfl, rfl⟩ ?_
  exact lp_areAlike E x0 x1 x2 x3 x4 x6 wd bl n f i j m hi hj (m + 1) 0 (by omega) (by omega) (fun k hk => by omega)

set_option maxRecDepth 100000 in
set_option maxHeartbeats 4000000 in
theorem lp_rank (E : jD) (x0 x1 x2 x3 x4 x6 : Nat) (wd bl : Int) (n : Nat) (f : Nat → Int32) (a b p : Nat) (hb : b < 48) (hab : a ≤ b) (hp : p < 48) : ∀ (d : Nat) (c : Nat), b + 1 - a - c < d → (c ≤ b + 1 - a) → J E Y_X3_rank (jZm E Y_X3_rank (fun r N0 => r = some (.int (iI (rkF (tI f) p a (b + 1 - a)))) ∧ N0 = [(x0, jO 3 [.ref x1, .ref x3, .ref x4, .ref x6, .int (iI wd), .int (iI bl)]), (x1, jO 4 [.ref x2, .int (iI (n : Int))]), (x2, jA E 48 f)])) 0 0 6 [(0, .ref x0), (1, .int (iI (a : Int))), (2, .int (iI (b : Int))), (3, .int (iI (p : Int))), (4, .int (iI (rkF (tI f) p a c))), (5, .int (iI ((a + c : Nat) : Int)))] [] [(x0, jO 3 [.ref x1, .ref x3, .ref x4, .ref x6, .int (iI wd), .int (iI bl)]), (x1, jO 4 [.ref x2, .int (iI (n : Int))]), (x2, jA E 48 f)] := by
  intro d
  induction d with
  | zero => intros; omega
  | succ d ih =>
    intro c hd hc
    refine j_iload 8 dX3_rank_6 rfl ?_
    refine j_iload_2 9 dX3_rank_8 rfl ?_
    refine j_icmp_gt 83 12 dX3_rank_9 (by first | exact iI_rng _ | exact bI_r _ | exact ⟨by omega, by omega⟩) (by first | exact iI_rng _ | exact bI_r _ | exact ⟨by omega, by omega⟩) (fun h9 => ?_) (fun h9 => ?_)
    · have e : c = b + 1 - a := by omega
      subst e
      refine j_iload 85 dX3_rank_83 rfl ?_
      exact j_iret dX3_rank_85 rfl rfl ⟨rfl, rfl⟩
    · refine j_aload_0 13 dX3_rank_12 rfl ?_
      refine j_get 16 0 gf_X3_12 dX3_rank_13 rfl rfl ?_
      refine j_get 19 1 gf_X3_65 dX3_rank_16 rfl rfl ?_
      refine j_iload 21 dX3_rank_19 rfl ?_
      refine j_iald 22 2 _ dX3_rank_21 rfl rfl rfl (by omega) ?_
      refine j_aload_0 23 dX3_rank_22 rfl ?_
      refine j_get 26 0 gf_X3_12 dX3_rank_23 rfl rfl ?_
      refine j_get 29 1 gf_X3_65 dX3_rank_26 rfl rfl ?_
      refine j_iload_3 30 dX3_rank_29 rfl ?_
      refine j_iald 31 2 _ dX3_rank_30 rfl rfl rfl (by omega) ?_
      refine j_icmp_ge 38 34 dX3_rank_31 (by first | exact iI_rng _ | exact bI_r _ | exact ⟨by omega, by omega⟩) (by first | exact iI_rng _ | exact bI_r _ | exact ⟨by omega, by omega⟩) (fun h31 => ?_) (fun h31 => ?_)
      · refine j_iconst 39 dX3_rank_38 ?_
        refine j_istore 41 (lv' := [(0, _), (1, _), (2, _), (3, _), (4, _), (5, _), (6, _)]) dX3_rank_39 rfl ⟨rfl, rfl⟩ ?_
        refine j_iload 43 dX3_rank_41 rfl ?_
        refine j_if_ne 74 46 dX3_rank_43 (by first | exact iI_rng _ | exact bI_r _ | exact ⟨by omega, by omega⟩) (fun h43 => ?_) (fun h43 => ?_)
        · refine j_iinc 77 (lv' := [(0, _), (1, _), (2, _), (3, _), (4, _), (5, _), (6, _)]) dX3_rank_74 rfl rfl ⟨rfl, rfl⟩ ?_
          refine j_iinc 80 (lv' := [(0, _), (1, _), (2, _), (3, _), (4, _), (5, _), (6, _)]) dX3_rank_77 rfl rfl ⟨rfl, rfl⟩ ?_
          refine j_goto 6 dX3_rank_80 ?_
          refine j_take 6 ?_
          have h := ih (c + 1) (by omega) (by omega)
          rw [show rkF (tI f) p a (c + 1) = rkF (tI f) p a c + (if (tI f) (a + c) < (tI f) p ∨ (a + c < p ∧ (tI f) (a + c) = (tI f) p) then 1 else 0) from rfl] at h
          first
            | (rw [if_pos (by show (f (a + c)).toInt < (f p).toInt ∨ (a + c < p ∧ (f (a + c)).toInt = (f p).toInt); omega)] at h; exact h)
            | (rw [if_neg (by show ¬ ((f (a + c)).toInt < (f p).toInt ∨ (a + c < p ∧ (f (a + c)).toInt = (f p).toInt)); omega), Int.add_zero] at h; exact h)
            | omega
        · refine j_iload 48 dX3_rank_46 rfl ?_
          refine j_iload_3 49 dX3_rank_48 rfl ?_
          refine j_icmp_ge 77 52 dX3_rank_49 (by first | exact iI_rng _ | exact bI_r _ | exact ⟨by omega, by omega⟩) (by first | exact iI_rng _ | exact bI_r _ | exact ⟨by omega, by omega⟩) (fun h49 => ?_) (fun h49 => ?_)
          · refine j_iinc 80 (lv' := [(0, _), (1, _), (2, _), (3, _), (4, _), (5, _), (6, _)]) dX3_rank_77 rfl rfl ⟨rfl, rfl⟩ ?_
            refine j_goto 6 dX3_rank_80 ?_
            refine j_take 6 ?_
            have h := ih (c + 1) (by omega) (by omega)
            rw [show rkF (tI f) p a (c + 1) = rkF (tI f) p a c + (if (tI f) (a + c) < (tI f) p ∨ (a + c < p ∧ (tI f) (a + c) = (tI f) p) then 1 else 0) from rfl] at h
            first
              | (rw [if_pos (by show (f (a + c)).toInt < (f p).toInt ∨ (a + c < p ∧ (f (a + c)).toInt = (f p).toInt); omega)] at h; exact h)
              | (rw [if_neg (by show ¬ ((f (a + c)).toInt < (f p).toInt ∨ (a + c < p ∧ (f (a + c)).toInt = (f p).toInt)); omega), Int.add_zero] at h; exact h)
              | omega
          · refine j_aload_0 53 dX3_rank_52 rfl ?_
            refine j_get 56 0 gf_X3_12 dX3_rank_53 rfl rfl ?_
            refine j_get 59 1 gf_X3_65 dX3_rank_56 rfl rfl ?_
            refine j_iload 61 dX3_rank_59 rfl ?_
            refine j_iald 62 2 _ dX3_rank_61 rfl rfl rfl (by omega) ?_
            refine j_aload_0 63 dX3_rank_62 rfl ?_
            refine j_get 66 0 gf_X3_12 dX3_rank_63 rfl rfl ?_
            refine j_get 69 1 gf_X3_65 dX3_rank_66 rfl rfl ?_
            refine j_iload_3 70 dX3_rank_69 rfl ?_
            refine j_iald 71 2 _ dX3_rank_70 rfl rfl rfl (by omega) ?_
            refine j_icmp_ne 77 74 dX3_rank_71 (by first | exact iI_rng _ | exact bI_r _ | exact ⟨by omega, by omega⟩) (by first | exact iI_rng _ | exact bI_r _ | exact ⟨by omega, by omega⟩) (fun h71 => ?_) (fun h71 => ?_)
            · refine j_iinc 80 (lv' := [(0, _), (1, _), (2, _), (3, _), (4, _), (5, _), (6, _)]) dX3_rank_77 rfl rfl ⟨rfl, rfl⟩ ?_
              refine j_goto 6 dX3_rank_80 ?_
              refine j_take 6 ?_
              have h := ih (c + 1) (by omega) (by omega)
              rw [show rkF (tI f) p a (c + 1) = rkF (tI f) p a c + (if (tI f) (a + c) < (tI f) p ∨ (a + c < p ∧ (tI f) (a + c) = (tI f) p) then 1 else 0) from rfl] at h
              first
                | (rw [if_pos (by show (f (a + c)).toInt < (f p).toInt ∨ (a + c < p ∧ (f (a + c)).toInt = (f p).toInt); omega)] at h; exact h)
                | (rw [if_neg (by show ¬ ((f (a + c)).toInt < (f p).toInt ∨ (a + c < p ∧ (f (a + c)).toInt = (f p).toInt)); omega), Int.add_zero] at h; exact h)
                | omega
            · refine j_iinc 77 (lv' := [(0, _), (1, _), (2, _), (3, _), (4, _), (5, _), (6, _)]) dX3_rank_74 rfl rfl ⟨rfl, rfl⟩ ?_
              refine j_iinc 80 (lv' := [(0, _), (1, _), (2, _), (3, _), (4, _), (5, _), (6, _)]) dX3_rank_77 rfl rfl ⟨rfl, rfl⟩ ?_
              refine j_goto 6 dX3_rank_80 ?_
              refine j_take 6 ?_
              have h := ih (c + 1) (by omega) (by omega)
              rw [show rkF (tI f) p a (c + 1) = rkF (tI f) p a c + (if (tI f) (a + c) < (tI f) p ∨ (a + c < p ∧ (tI f) (a + c) = (tI f) p) then 1 else 0) from rfl] at h
              first
                | (rw [if_pos (by show (f (a + c)).toInt < (f p).toInt ∨ (a + c < p ∧ (f (a + c)).toInt = (f p).toInt); omega)] at h; exact h)
                | (rw [if_neg (by show ¬ ((f (a + c)).toInt < (f p).toInt ∨ (a + c < p ∧ (f (a + c)).toInt = (f p).toInt)); omega), Int.add_zero] at h; exact h)
                | omega
      · refine j_iconst 35 dX3_rank_34 ?_
        refine j_goto 39 dX3_rank_35 ?_
        refine j_istore 41 (lv' := [(0, _), (1, _), (2, _), (3, _), (4, _), (5, _), (6, _)]) dX3_rank_39 rfl ⟨rfl, rfl⟩ ?_
        refine j_iload 43 dX3_rank_41 rfl ?_
        refine j_if_ne 74 46 dX3_rank_43 (by first | exact iI_rng _ | exact bI_r _ | exact ⟨by omega, by omega⟩) (fun h43 => ?_) (fun h43 => ?_)
        · refine j_iinc 77 (lv' := [(0, _), (1, _), (2, _), (3, _), (4, _), (5, _), (6, _)]) dX3_rank_74 rfl rfl ⟨rfl, rfl⟩ ?_
          refine j_iinc 80 (lv' := [(0, _), (1, _), (2, _), (3, _), (4, _), (5, _), (6, _)]) dX3_rank_77 rfl rfl ⟨rfl, rfl⟩ ?_
          refine j_goto 6 dX3_rank_80 ?_
          refine j_take 6 ?_
          have h := ih (c + 1) (by omega) (by omega)
          rw [show rkF (tI f) p a (c + 1) = rkF (tI f) p a c + (if (tI f) (a + c) < (tI f) p ∨ (a + c < p ∧ (tI f) (a + c) = (tI f) p) then 1 else 0) from rfl] at h
          first
            | (rw [if_pos (by show (f (a + c)).toInt < (f p).toInt ∨ (a + c < p ∧ (f (a + c)).toInt = (f p).toInt); omega)] at h; exact h)
            | (rw [if_neg (by show ¬ ((f (a + c)).toInt < (f p).toInt ∨ (a + c < p ∧ (f (a + c)).toInt = (f p).toInt)); omega), Int.add_zero] at h; exact h)
            | omega
        · refine j_iload 48 dX3_rank_46 rfl ?_
          refine j_iload_3 49 dX3_rank_48 rfl ?_
          refine j_icmp_ge 77 52 dX3_rank_49 (by first | exact iI_rng _ | exact bI_r _ | exact ⟨by omega, by omega⟩) (by first | exact iI_rng _ | exact bI_r _ | exact ⟨by omega, by omega⟩) (fun h49 => ?_) (fun h49 => ?_)
          · refine j_iinc 80 (lv' := [(0, _), (1, _), (2, _), (3, _), (4, _), (5, _), (6, _)]) dX3_rank_77 rfl rfl ⟨rfl, rfl⟩ ?_
            refine j_goto 6 dX3_rank_80 ?_
            refine j_take 6 ?_
            have h := ih (c + 1) (by omega) (by omega)
            rw [show rkF (tI f) p a (c + 1) = rkF (tI f) p a c + (if (tI f) (a + c) < (tI f) p ∨ (a + c < p ∧ (tI f) (a + c) = (tI f) p) then 1 else 0) from rfl] at h
            first
              | (rw [if_pos (by show (f (a + c)).toInt < (f p).toInt ∨ (a + c < p ∧ (f (a + c)).toInt = (f p).toInt); omega)] at h; exact h)
              | (rw [if_neg (by show ¬ ((f (a + c)).toInt < (f p).toInt ∨ (a + c < p ∧ (f (a + c)).toInt = (f p).toInt)); omega), Int.add_zero] at h; exact h)
              | omega
          · refine j_aload_0 53 dX3_rank_52 rfl ?_
            refine j_get 56 0 gf_X3_12 dX3_rank_53 rfl rfl ?_
            refine j_get 59 1 gf_X3_65 dX3_rank_56 rfl rfl ?_
            refine j_iload 61 dX3_rank_59 rfl ?_
            refine j_iald 62 2 _ dX3_rank_61 rfl rfl rfl (by omega) ?_
            refine j_aload_0 63 dX3_rank_62 rfl ?_
            refine j_get 66 0 gf_X3_12 dX3_rank_63 rfl rfl ?_
            refine j_get 69 1 gf_X3_65 dX3_rank_66 rfl rfl ?_
            refine j_iload_3 70 dX3_rank_69 rfl ?_
            refine j_iald 71 2 _ dX3_rank_70 rfl rfl rfl (by omega) ?_
            refine j_icmp_ne 77 74 dX3_rank_71 (by first | exact iI_rng _ | exact bI_r _ | exact ⟨by omega, by omega⟩) (by first | exact iI_rng _ | exact bI_r _ | exact ⟨by omega, by omega⟩) (fun h71 => ?_) (fun h71 => ?_)
            · refine j_iinc 80 (lv' := [(0, _), (1, _), (2, _), (3, _), (4, _), (5, _), (6, _)]) dX3_rank_77 rfl rfl ⟨rfl, rfl⟩ ?_
              refine j_goto 6 dX3_rank_80 ?_
              refine j_take 6 ?_
              have h := ih (c + 1) (by omega) (by omega)
              rw [show rkF (tI f) p a (c + 1) = rkF (tI f) p a c + (if (tI f) (a + c) < (tI f) p ∨ (a + c < p ∧ (tI f) (a + c) = (tI f) p) then 1 else 0) from rfl] at h
              first
                | (rw [if_pos (by show (f (a + c)).toInt < (f p).toInt ∨ (a + c < p ∧ (f (a + c)).toInt = (f p).toInt); omega)] at h; exact h)
                | (rw [if_neg (by show ¬ ((f (a + c)).toInt < (f p).toInt ∨ (a + c < p ∧ (f (a + c)).toInt = (f p).toInt)); omega), Int.add_zero] at h; exact h)
                | omega
            · refine j_iinc 77 (lv' := [(0, _), (1, _), (2, _), (3, _), (4, _), (5, _), (6, _)]) dX3_rank_74 rfl rfl ⟨rfl, rfl⟩ ?_
              refine j_iinc 80 (lv' := [(0, _), (1, _), (2, _), (3, _), (4, _), (5, _), (6, _)]) dX3_rank_77 rfl rfl ⟨rfl, rfl⟩ ?_
              refine j_goto 6 dX3_rank_80 ?_
              refine j_take 6 ?_
              have h := ih (c + 1) (by omega) (by omega)
              rw [show rkF (tI f) p a (c + 1) = rkF (tI f) p a c + (if (tI f) (a + c) < (tI f) p ∨ (a + c < p ∧ (tI f) (a + c) = (tI f) p) then 1 else 0) from rfl] at h
              first
                | (rw [if_pos (by show (f (a + c)).toInt < (f p).toInt ∨ (a + c < p ∧ (f (a + c)).toInt = (f p).toInt); omega)] at h; exact h)
                | (rw [if_neg (by show ¬ ((f (a + c)).toInt < (f p).toInt ∨ (a + c < p ∧ (f (a + c)).toInt = (f p).toInt)); omega), Int.add_zero] at h; exact h)
                | omega

set_option maxRecDepth 100000 in
set_option maxHeartbeats 4000000 in
theorem c_X3_rank (E : jD) (x0 x1 x2 x3 x4 x6 : Nat) (wd bl : Int) (n : Nat) (f : Nat → Int32) (a b p : Nat) (hb : b < 48) (hab : a ≤ b) (hp : p < 48) : MC E Y_X3_rank [.ref x0, .int (iI (a : Int)), .int (iI (b : Int)), .int (iI (p : Int))] [(x0, jO 3 [.ref x1, .ref x3, .ref x4, .ref x6, .int (iI wd), .int (iI bl)]), (x1, jO 4 [.ref x2, .int (iI (n : Int))]), (x2, jA E 48 f)] (fun r N0 => r = some (.int (iI (rkF (tI f) p a (b + 1 - a)))) ∧ N0 = [(x0, jO 3 [.ref x1, .ref x3, .ref x4, .ref x6, .int (iI wd), .int (iI bl)]), (x1, jO 4 [.ref x2, .int (iI (n : Int))]), (x2, jA E 48 f)]) := by
  refine MC.of (by decide) rfl rfl ?_
  refine j_iconst 1 dX3_rank_0 ?_
  refine j_istore 3 (lv' := [(0, _), (1, _), (2, _), (3, _), (4, _)]) dX3_rank_1 rfl ⟨rfl, rfl⟩ ?_
  refine j_iload_1 4 dX3_rank_3 rfl ?_
  refine j_istore 6 (lv' := [(0, _), (1, _), (2, _), (3, _), (4, _), (5, _)]) dX3_rank_4 rfl ⟨rfl, rfl⟩ ?_
  exact lp_rank E x0 x1 x2 x3 x4 x6 wd bl n f a b p hb hab hp (b + 2 - a) 0 (by omega) (by omega)

set_option maxRecDepth 100000 in
set_option maxHeartbeats 4000000 in
theorem lp_kthPlace (E : jD) (x0 x1 x2 x3 x4 x6 : Nat) (wd bl : Int) (n : Nat) (f : Nat → Int32) (a b : Nat) (k : Int) (hb : b < 48) (hab : a ≤ b) (hk : jr k) : ∀ (d : Nat) (p : Nat), b - p < d → (p ≤ b) → (a ≤ p) → (ktF (tI f) a (b + 1 - a) k (b - p) p = ktF (tI f) a (b + 1 - a) k (b - a) a) → J E Y_X3_kthPlace (jZm E Y_X3_kthPlace (fun r N0 => r = some (.int (iI ((ktF (tI f) a (b + 1 - a) k (b - a) a : Nat)))) ∧ N0 = [(x0, jO 3 [.ref x1, .ref x3, .ref x4, .ref x6, .int (iI wd), .int (iI bl)]), (x1, jO 4 [.ref x2, .int (iI (n : Int))]), (x2, jA E 48 f)])) 0 0 3 [(0, .ref x0), (1, .int (iI (a : Int))), (2, .int (iI (b : Int))), (3, .int (iI k)), (4, .int (iI (p : Int)))] [] [(x0, jO 3 [.ref x1, .ref x3, .ref x4, .ref x6, .int (iI wd), .int (iI bl)]), (x1, jO 4 [.ref x2, .int (iI (n : Int))]), (x2, jA E 48 f)] := by
  intro d
  induction d with
  | zero => intros; omega
  | succ d ih =>
    intro p hd hp hp2 he
    refine j_iload 5 dX3_kthPlace_3 rfl ?_
    refine j_iload_2 6 dX3_kthPlace_5 rfl ?_
    refine j_icmp_ge 27 9 dX3_kthPlace_6 (by first | exact iI_rng _ | exact bI_r _ | exact ⟨by omega, by omega⟩) (by first | exact iI_rng _ | exact bI_r _ | exact ⟨by omega, by omega⟩) (fun h6 => ?_) (fun h6 => ?_)
    · have e : p = b := by omega
      subst e
      rw [Nat.sub_self] at he
      refine j_iload 29 dX3_kthPlace_27 rfl ?_
      exact j_iret dX3_kthPlace_29 rfl rfl ⟨congrArg (fun z => some (Value.int (iI z))) (by rw [← he]; first | rfl | rw [e2]), rfl⟩
    · obtain ⟨c, hc⟩ : ∃ c, b - p = c + 1 := ⟨b - p - 1, by omega⟩
      rw [hc] at he
      refine j_aload_0 10 dX3_kthPlace_9 rfl ?_
      refine j_iload_1 11 dX3_kthPlace_10 rfl ?_
      refine j_iload_2 12 dX3_kthPlace_11 rfl ?_
      refine j_iload 14 dX3_kthPlace_12 rfl ?_
      refine j_callVi 17 Y_X3_rank [0, 1, 2] [_, _, _] (c_X3_rank E _ _ _ _ _ _ _ _ _ _ a b p hb hab (by omega)) m_X3_rank wml_X3_87 dX3_kthPlace_14 0 rfl rfl rfl rfl rfl rfl rfl rfl rfl rfl ?_
      refine j_iload_3 18 dX3_kthPlace_17 rfl ?_
      refine j_icmp_eq 27 21 dX3_kthPlace_18 (by have := rkF_in (tI f) p a (b + 1 - a); exact ⟨by omega, by omega⟩) (by first | exact iI_rng _ | exact bI_r _ | exact ⟨by omega, by omega⟩) (fun h18 => ?_) (fun h18 => ?_)
      · have e2 : ktF (tI f) a (b + 1 - a) k (c + 1) p = p := if_pos h18
        refine j_iload 29 dX3_kthPlace_27 rfl ?_
        exact j_iret dX3_kthPlace_29 rfl rfl ⟨congrArg (fun z => some (Value.int (iI z))) (by rw [← he]; first | rfl | rw [e2]), rfl⟩
      · have e2 : ktF (tI f) a (b + 1 - a) k (c + 1) p = ktF (tI f) a (b + 1 - a) k c (p + 1) := if_neg h18
        refine j_iinc 24 (lv' := [(0, _), (1, _), (2, _), (3, _), (4, _)]) dX3_kthPlace_21 rfl rfl ⟨rfl, rfl⟩ ?_
        refine j_goto 3 dX3_kthPlace_24 ?_
        exact ih (p + 1) (by omega) (by omega) (by omega) (by rw [show b - (p + 1) = c by omega, ← e2, he])

set_option maxRecDepth 100000 in
set_option maxHeartbeats 4000000 in
theorem c_X3_kthPlace (E : jD) (x0 x1 x2 x3 x4 x6 : Nat) (wd bl : Int) (n : Nat) (f : Nat → Int32) (a b : Nat) (k : Int) (hb : b < 48) (hab : a ≤ b) (hk : jr k) : MC E Y_X3_kthPlace [.ref x0, .int (iI (a : Int)), .int (iI (b : Int)), .int (iI k)] [(x0, jO 3 [.ref x1, .ref x3, .ref x4, .ref x6, .int (iI wd), .int (iI bl)]), (x1, jO 4 [.ref x2, .int (iI (n : Int))]), (x2, jA E 48 f)] (fun r N0 => r = some (.int (iI ((ktF (tI f) a (b + 1 - a) k (b - a) a : Nat)))) ∧ N0 = [(x0, jO 3 [.ref x1, .ref x3, .ref x4, .ref x6, .int (iI wd), .int (iI bl)]), (x1, jO 4 [.ref x2, .int (iI (n : Int))]), (x2, jA E 48 f)]) := by
  refine MC.of (by decide) rfl rfl ?_
  refine j_iload_1 1 dX3_kthPlace_0 rfl ?_
  refine j_istore 3 (lv' := [(0, _), (1, _), (2, _), (3, _), (4, _)]) dX3_kthPlace_1 rfl ⟨rfl, rfl⟩ ?_
  exact lp_kthPlace E x0 x1 x2 x3 x4 x6 wd bl n f a b k hb hab hk (b + 1) a (by omega) (by omega) (by omega) rfl
