set_option maxRecDepth 100000 in
set_option maxHeartbeats 4000000 in
theorem c_X7_in (E : jD) (v a b : Int) (hv : jr v) (ha : jr a) (hb : jr b) : MC E Y_X7_in [.int (iI v), .int (iI a), .int (iI b)] [] (fun rr N0 => rr = some (.int (iI (bI (a ≤ v ∧ v ≤ b)))) ∧ N0 = []) := by
  refine MC.of (by decide) rfl rfl ?_
  refine j_iload_0 1 dX7_in_0 rfl ?_
  refine j_iload_1 2 dX7_in_1 rfl ?_
  refine j_icmp_lt 14 5 dX7_in_2 (by first | with_reducible exact iI_rng _ | with_reducible exact bI_r _ | exact ⟨by omega, by omega⟩) (by first | with_reducible exact iI_rng _ | with_reducible exact bI_r _ | exact ⟨by omega, by omega⟩) (fun q2 => ?_) (fun q2 => ?_)
  · refine j_iconst 15 dX7_in_14 ?_
    exact j_zret (by first | exact bI_n _ | decide +kernel) dX7_in_15 rfl rfl ⟨congrArg (fun z => some (Value.int (iI z))) (by first | exact (bI_t (by omega)).symm | exact (bI_f (by omega)).symm), rfl⟩
  · refine j_iload_0 6 dX7_in_5 rfl ?_
    refine j_iload_2 7 dX7_in_6 rfl ?_
    refine j_icmp_gt 14 10 dX7_in_7 (by first | with_reducible exact iI_rng _ | with_reducible exact bI_r _ | exact ⟨by omega, by omega⟩) (by first | with_reducible exact iI_rng _ | with_reducible exact bI_r _ | exact ⟨by omega, by omega⟩) (fun q7 => ?_) (fun q7 => ?_)
    · refine j_iconst 15 dX7_in_14 ?_
      exact j_zret (by first | exact bI_n _ | decide +kernel) dX7_in_15 rfl rfl ⟨congrArg (fun z => some (Value.int (iI z))) (by first | exact (bI_t (by omega)).symm | exact (bI_f (by omega)).symm), rfl⟩
    · refine j_iconst 11 dX7_in_10 ?_
      refine j_goto 15 dX7_in_11 ?_
      exact j_zret (by first | exact bI_n _ | decide +kernel) dX7_in_15 rfl rfl ⟨congrArg (fun z => some (Value.int (iI z))) (by first | exact (bI_t (by omega)).symm | exact (bI_f (by omega)).symm), rfl⟩

set_option maxRecDepth 100000 in
set_option maxHeartbeats 4000000 in
theorem c_X7_isRow (E : jD) (v : Int) (hv : jr v) : MC E Y_X7_isRow [.int (iI v)] [] (fun rr N0 => rr = some (.int (iI (bI (0 ≤ v ∧ v ≤ 3)))) ∧ N0 = []) := by
  refine MC.of (by decide) rfl rfl ?_
  refine j_iload_0 1 dX7_isRow_0 rfl ?_
  refine j_iconst 2 dX7_isRow_1 ?_
  refine j_iconst 3 dX7_isRow_2 ?_
  refine j_callSi 6 Y_X7_in [] [_, _, _] (c_X7_in E _ _ _ (by first | with_reducible assumption | with_reducible exact iI_rng _ | exact ⟨by omega, by omega⟩) (by first | with_reducible assumption | with_reducible exact iI_rng _ | exact ⟨by omega, by omega⟩) (by first | with_reducible assumption | with_reducible exact iI_rng _ | exact ⟨by omega, by omega⟩)) m_X7_in wml_X7_56 dX7_isRow_3 rfl rfl rfl rfl rfl rfl rfl ?_
  exact j_zret (by first | exact bI_n _ | decide +kernel) dX7_isRow_6 rfl rfl ⟨rfl, rfl⟩

set_option maxRecDepth 100000 in
set_option maxHeartbeats 4000000 in
theorem c_X7_found (E : jD) (fnd : Int) (ask : Int) (wd : Int) (n : Int) (mm : Int) (um : Int) (nd : Int) (fm : Nat → Int) (m0 : Nat) (m1 : Nat) (m2 : Nat) (m3 : Nat) (m4 : Nat) (m5 : Nat) (m6 : Nat) (m7 : Nat) (m8 : Nat) (m9 : Nat) (m10 : Nat) (m11 : Nat) (m12 : Nat) (thr : Int) (pd : Int) (pal : Int) (w : Nat) (hw : w < 5) : MC E Y_X7_found [.ref m0, .int (iI (w : Int))] [(m0, jO 7 [.int (iI thr), .int (iI ask), .int (iI fnd), .ref m1, .ref m2, .ref m3, .int (iI n), .int (iI wd), .ref m4, .ref m5, .int (iI mm), .ref m6, .ref m7, .int (iI um), .ref m8, .ref m9, .ref m10, .ref m11, .int (iI pd), .int (iI nd), .ref m12, .int (iI pal)]), (m1, jA E 5 (aI fm))] (fun rr N0 => rr = some (.int (iI (-3))) ∧ N0 = [(m0, jO 7 [.int (iI thr), .int (iI ask), .int (iI (w : Int)), .ref m1, .ref m2, .ref m3, .int (iI n), .int (iI wd), .ref m4, .ref m5, .int (iI mm), .ref m6, .ref m7, .int (iI um), .ref m8, .ref m9, .ref m10, .ref m11, .int (iI pd), .int (iI nd), .ref m12, .int (iI pal)]), (m1, jA E 5 (aI (inF fm w)))]) := by
  refine MC.of (by decide) rfl rfl ?_
  refine j_aload_0 1 dX7_found_0 rfl ?_
  refine j_iload_1 2 dX7_found_1 rfl ?_
  refine j_put 5 0 pf_X7_50 dX7_found_2 rfl ⟨rfl, rfl, rfl⟩ ?_
  refine j_aload_0 6 dX7_found_5 rfl ?_
  refine j_get 9 0 gf_X7_7 dX7_found_6 rfl rfl ?_
  refine j_iload_1 10 dX7_found_9 rfl ?_
  refine j_dup2 11 dX7_found_10 rfl rfl ?_
  refine j_ialdw 12 1 _ (fm w) dX7_found_11 rfl rfl rfl (by omega) rfl ?_
  refine j_iconst 13 dX7_found_12 ?_
  refine j_iadd 14 dX7_found_13 ?_
  refine j_iast 15 1 _ dX7_found_14 rfl rfl rfl (by omega) ?_
  rw [aI_upd]
  refine j_bipush 17 dX7_found_15 (by decide +kernel) ?_
  exact j_iret dX7_found_17 rfl rfl ⟨rfl, rfl⟩

set_option maxRecDepth 100000 in
set_option maxHeartbeats 4000000 in
theorem c_X7_tells (E : jD) (fnd : Int) (ask : Int) (wd : Int) (n : Int) (mm : Int) (um : Int) (nd : Int) (m0 : Nat) (m1 : Nat) (m2 : Nat) (m3 : Nat) (m4 : Nat) (m5 : Nat) (m6 : Nat) (m7 : Nat) (m8 : Nat) (m9 : Nat) (m10 : Nat) (m11 : Nat) (m12 : Nat) (thr : Int) (pd : Int) (pal : Int) (a b : Int)  : MC E Y_X7_tells [.ref m0, .int (iI a), .int (iI b)] [(m0, jO 7 [.int (iI thr), .int (iI ask), .int (iI fnd), .ref m1, .ref m2, .ref m3, .int (iI n), .int (iI wd), .ref m4, .ref m5, .int (iI mm), .ref m6, .ref m7, .int (iI um), .ref m8, .ref m9, .ref m10, .ref m11, .int (iI pd), .int (iI nd), .ref m12, .int (iI pal)])] (fun rr N0 => rr = some (.int (iI (a))) ∧ N0 = [(m0, jO 7 [.int (iI thr), .int (iI b), .int (iI fnd), .ref m1, .ref m2, .ref m3, .int (iI n), .int (iI wd), .ref m4, .ref m5, .int (iI mm), .ref m6, .ref m7, .int (iI um), .ref m8, .ref m9, .ref m10, .ref m11, .int (iI pd), .int (iI nd), .ref m12, .int (iI pal)])]) := by
  refine MC.of (by decide) rfl rfl ?_
  refine j_aload_0 1 dX7_tells_0 rfl ?_
  refine j_iload_2 2 dX7_tells_1 rfl ?_
  refine j_put 5 0 pf_X7_53 dX7_tells_2 rfl ⟨rfl, rfl, rfl⟩ ?_
  refine j_iload_1 6 dX7_tells_5 rfl ?_
  exact j_iret dX7_tells_6 rfl rfl ⟨rfl, rfl⟩

set_option maxRecDepth 100000 in
set_option maxHeartbeats 4000000 in
theorem c_X7_against_bad (E : jD) (fnd : Int) (ask : Int) (wd : Int) (n : Int) (mm : Int) (um : Int) (nd : Int) (m0 : Nat) (m1 : Nat) (m2 : Nat) (m3 : Nat) (m4 : Nat) (m5 : Nat) (m6 : Nat) (m7 : Nat) (m8 : Nat) (m9 : Nat) (m10 : Nat) (m11 : Nat) (m12 : Nat) (thr : Int) (pd : Int) (pal : Int) (r i : Int) (hr : jr r) (hb : r < 0 ∨ 4 ≤ r) : MC E Y_X7_against [.ref m0, .int (iI r), .int (iI i)] [(m0, jO 7 [.int (iI thr), .int (iI ask), .int (iI fnd), .ref m1, .ref m2, .ref m3, .int (iI n), .int (iI wd), .ref m4, .ref m5, .int (iI mm), .ref m6, .ref m7, .int (iI um), .ref m8, .ref m9, .ref m10, .ref m11, .int (iI pd), .int (iI nd), .ref m12, .int (iI pal)])] (fun rr N0 => rr = some (.int (iI (-1))) ∧ N0 = [(m0, jO 7 [.int (iI thr), .int (iI ask), .int (iI fnd), .ref m1, .ref m2, .ref m3, .int (iI n), .int (iI wd), .ref m4, .ref m5, .int (iI mm), .ref m6, .ref m7, .int (iI um), .ref m8, .ref m9, .ref m10, .ref m11, .int (iI pd), .int (iI nd), .ref m12, .int (iI pal)])]) := by
  refine MC.of (by decide) rfl rfl ?_
  refine j_iload_1 1 dX7_against_0 rfl ?_
  refine j_callSi 4 Y_X7_isRow [] [_] (c_X7_isRow E _ (by first | with_reducible assumption | with_reducible exact iI_rng _ | exact ⟨by omega, by omega⟩)) m_X7_isRow wml_X7_60 dX7_against_1 rfl rfl rfl rfl rfl rfl rfl ?_
  refine j_bif_ne 11 7 dX7_against_4 (fun q4 => ?_) (fun q4 => ?_)
  · omega
  · refine j_iconst 8 dX7_against_7 ?_
    refine j_goto 53 dX7_against_8 ?_
    exact j_iret dX7_against_53 rfl rfl ⟨rfl, rfl⟩

set_option maxRecDepth 100000 in
set_option maxHeartbeats 4000000 in
theorem c_X7_against_no (E : jD) (fnd : Int) (ask : Int) (wd : Int) (n : Int) (mm : Int) (um : Int) (nd : Int) (fm : Nat → Int) (m0 : Nat) (m1 : Nat) (m2 : Nat) (m3 : Nat) (m4 : Nat) (m5 : Nat) (m6 : Nat) (m7 : Nat) (m8 : Nat) (m9 : Nat) (m10 : Nat) (m11 : Nat) (m12 : Nat) (thr : Int) (pd : Int) (pal : Int) (rn : Nat → Int) (r : Nat) (i c : Int) (hr4 : r < 4) (hN : -1 ≤ rn r ∧ rn r ≤ 48) (hi : jr i) (hc : (rn r < 0 ∧ c = 1) ∨ (0 ≤ rn r ∧ (i < 0 ∨ rn r ≤ i) ∧ c = 2)) : MC E Y_X7_against [.ref m0, .int (iI (r : Int)), .int (iI i)] [(m0, jO 7 [.int (iI thr), .int (iI ask), .int (iI fnd), .ref m1, .ref m2, .ref m3, .int (iI n), .int (iI wd), .ref m4, .ref m5, .int (iI mm), .ref m6, .ref m7, .int (iI um), .ref m8, .ref m9, .ref m10, .ref m11, .int (iI pd), .int (iI nd), .ref m12, .int (iI pal)]), (m1, jA E 5 (aI fm)), (m3, jA E 4 (aI rn))] (fun rr N0 => rr = some (.int (iI (rz c))) ∧ N0 = [(m0, jO 7 [.int (iI thr), .int (iI ask), .int (iI (rf c fnd)), .ref m1, .ref m2, .ref m3, .int (iI n), .int (iI wd), .ref m4, .ref m5, .int (iI mm), .ref m6, .ref m7, .int (iI um), .ref m8, .ref m9, .ref m10, .ref m11, .int (iI pd), .int (iI nd), .ref m12, .int (iI pal)]), (m1, jA E 5 (aI (rm c fm))), (m3, jA E 4 (aI rn))]) := by
  refine MC.of (by decide) rfl rfl ?_
  refine j_iload_1 1 dX7_against_0 rfl ?_
  refine j_callSi 4 Y_X7_isRow [] [_] (c_X7_isRow E _ (by first | with_reducible assumption | with_reducible exact iI_rng _ | exact ⟨by omega, by omega⟩)) m_X7_isRow wml_X7_60 dX7_against_1 rfl rfl rfl rfl rfl rfl rfl ?_
  refine j_bif_ne 11 7 dX7_against_4 (fun q4 => ?_) (fun q4 => ?_)
  · refine j_aload_0 12 dX7_against_11 rfl ?_
    refine j_get 15 0 gf_X7_16 dX7_against_12 rfl rfl ?_
    refine j_iload_1 16 dX7_against_15 rfl ?_
    refine j_ialdw 17 2 _ (rn r) dX7_against_16 rfl rfl rfl (by omega) rfl ?_
    refine j_if_ge 28 20 dX7_against_17 (by first | with_reducible exact iI_rng _ | with_reducible exact bI_r _ | exact ⟨by omega, by omega⟩) (fun q17 => ?_) (fun q17 => ?_)
    · refine j_iload_2 29 dX7_against_28 rfl ?_
      refine j_iconst 30 dX7_against_29 ?_
      refine j_aload_0 31 dX7_against_30 rfl ?_
      refine j_get 34 0 gf_X7_16 dX7_against_31 rfl rfl ?_
      refine j_iload_1 35 dX7_against_34 rfl ?_
      refine j_ialdw 36 2 _ (rn r) dX7_against_35 rfl rfl rfl (by omega) rfl ?_
      refine j_iconst 37 dX7_against_36 ?_
      refine j_isub 38 dX7_against_37 ?_
      refine j_callSi 41 Y_X7_in [] [_, _, _] (c_X7_in E _ _ _ (by first | with_reducible assumption | with_reducible exact iI_rng _ | exact ⟨by omega, by omega⟩) (by first | with_reducible assumption | with_reducible exact iI_rng _ | exact ⟨by omega, by omega⟩) (by first | with_reducible assumption | with_reducible exact iI_rng _ | exact ⟨by omega, by omega⟩)) m_X7_in wml_X7_56 dX7_against_38 rfl rfl rfl rfl rfl rfl rfl ?_
      refine j_bif_ne 52 44 dX7_against_41 (fun q41 => ?_) (fun q41 => ?_)
      · omega
      · obtain rfl : c = 2 := by omega
        refine j_aload_0 45 dX7_against_44 rfl ?_
        refine j_iconst 46 dX7_against_45 ?_
        refine j_callV 49 Y_X7_found [0, 1] [_] (c_X7_found E _ _ _ _ _ _ _ _ _ _ _ _ _ _ _ _ _ _ _ _ _ _ _ _ 2 (by decide)) m_X7_found wml_X7_64 dX7_against_46 0 rfl rfl rfl rfl rfl rfl rfl rfl rfl (fun r N h => by obtain ⟨rfl, rfl⟩ := h; rfl) (fun r N h => ?_)
        obtain ⟨rfl, rfl⟩ := h
        refine j_goto 53 dX7_against_49 ?_
        exact j_iret dX7_against_53 rfl rfl ⟨rfl, rfl⟩
    · obtain rfl : c = 1 := by omega
      refine j_aload_0 21 dX7_against_20 rfl ?_
      refine j_iconst 22 dX7_against_21 ?_
      refine j_callV 25 Y_X7_found [0, 1] [_] (c_X7_found E _ _ _ _ _ _ _ _ _ _ _ _ _ _ _ _ _ _ _ _ _ _ _ _ 1 (by decide)) m_X7_found wml_X7_64 dX7_against_22 0 rfl rfl rfl rfl rfl rfl rfl rfl rfl (fun r N h => by obtain ⟨rfl, rfl⟩ := h; rfl) (fun r N h => ?_)
      obtain ⟨rfl, rfl⟩ := h
      refine j_goto 53 dX7_against_25 ?_
      exact j_iret dX7_against_53 rfl rfl ⟨rfl, rfl⟩
  · omega

set_option maxRecDepth 100000 in
set_option maxHeartbeats 4000000 in
theorem c_X7_against_ok (E : jD) (fnd : Int) (ask : Int) (wd : Int) (n : Int) (mm : Int) (um : Int) (nd : Int) (m0 : Nat) (m1 : Nat) (m2 : Nat) (m3 : Nat) (m4 : Nat) (m5 : Nat) (m6 : Nat) (m7 : Nat) (m8 : Nat) (m9 : Nat) (m10 : Nat) (m11 : Nat) (m12 : Nat) (thr : Int) (pd : Int) (pal : Int) (rn : Nat → Int) (r i : Nat) (hr4 : r < 4) (hN : -1 ≤ rn r ∧ rn r ≤ 48) (hi : (i : Int) < rn r) : MC E Y_X7_against [.ref m0, .int (iI (r : Int)), .int (iI (i : Int))] [(m0, jO 7 [.int (iI thr), .int (iI ask), .int (iI fnd), .ref m1, .ref m2, .ref m3, .int (iI n), .int (iI wd), .ref m4, .ref m5, .int (iI mm), .ref m6, .ref m7, .int (iI um), .ref m8, .ref m9, .ref m10, .ref m11, .int (iI pd), .int (iI nd), .ref m12, .int (iI pal)]), (m3, jA E 4 (aI rn))] (fun rr N0 => rr = some (.int (iI (0))) ∧ N0 = [(m0, jO 7 [.int (iI thr), .int (iI ask), .int (iI fnd), .ref m1, .ref m2, .ref m3, .int (iI n), .int (iI wd), .ref m4, .ref m5, .int (iI mm), .ref m6, .ref m7, .int (iI um), .ref m8, .ref m9, .ref m10, .ref m11, .int (iI pd), .int (iI nd), .ref m12, .int (iI pal)]), (m3, jA E 4 (aI rn))]) := by
  refine MC.of (by decide) rfl rfl ?_
  refine j_iload_1 1 dX7_against_0 rfl ?_
  refine j_callSi 4 Y_X7_isRow [] [_] (c_X7_isRow E _ (by first | with_reducible assumption | with_reducible exact iI_rng _ | exact ⟨by omega, by omega⟩)) m_X7_isRow wml_X7_60 dX7_against_1 rfl rfl rfl rfl rfl rfl rfl ?_
  refine j_bif_ne 11 7 dX7_against_4 (fun q4 => ?_) (fun q4 => ?_)
  · refine j_aload_0 12 dX7_against_11 rfl ?_
    refine j_get 15 0 gf_X7_16 dX7_against_12 rfl rfl ?_
    refine j_iload_1 16 dX7_against_15 rfl ?_
    refine j_ialdw 17 1 _ (rn r) dX7_against_16 rfl rfl rfl (by omega) rfl ?_
    refine j_if_ge 28 20 dX7_against_17 (by first | with_reducible exact iI_rng _ | with_reducible exact bI_r _ | exact ⟨by omega, by omega⟩) (fun q17 => ?_) (fun q17 => ?_)
    · refine j_iload_2 29 dX7_against_28 rfl ?_
      refine j_iconst 30 dX7_against_29 ?_
      refine j_aload_0 31 dX7_against_30 rfl ?_
      refine j_get 34 0 gf_X7_16 dX7_against_31 rfl rfl ?_
      refine j_iload_1 35 dX7_against_34 rfl ?_
      refine j_ialdw 36 1 _ (rn r) dX7_against_35 rfl rfl rfl (by omega) rfl ?_
      refine j_iconst 37 dX7_against_36 ?_
      refine j_isub 38 dX7_against_37 ?_
      refine j_callSi 41 Y_X7_in [] [_, _, _] (c_X7_in E _ _ _ (by first | with_reducible assumption | with_reducible exact iI_rng _ | exact ⟨by omega, by omega⟩) (by first | with_reducible assumption | with_reducible exact iI_rng _ | exact ⟨by omega, by omega⟩) (by first | with_reducible assumption | with_reducible exact iI_rng _ | exact ⟨by omega, by omega⟩)) m_X7_in wml_X7_56 dX7_against_38 rfl rfl rfl rfl rfl rfl rfl ?_
      refine j_bif_ne 52 44 dX7_against_41 (fun q41 => ?_) (fun q41 => ?_)
      · refine j_iconst 53 dX7_against_52 ?_
        exact j_iret dX7_against_53 rfl rfl ⟨rfl, rfl⟩
      · omega
    · omega
  · omega

set_option maxRecDepth 100000 in
set_option maxHeartbeats 4000000 in
theorem c_X7_againstRun_no (E : jD) (fnd : Int) (ask : Int) (wd : Int) (n : Int) (mm : Int) (um : Int) (nd : Int) (fm : Nat → Int) (m0 : Nat) (m1 : Nat) (m2 : Nat) (m3 : Nat) (m4 : Nat) (m5 : Nat) (m6 : Nat) (m7 : Nat) (m8 : Nat) (m9 : Nat) (m10 : Nat) (m11 : Nat) (m12 : Nat) (thr : Int) (pd : Int) (pal : Int) (i j c : Int) (hn : 0 ≤ n ∧ n ≤ 48) (hi : jr i) (hj : jr j) (hc : (n = 0 ∧ c = -2) ∨ (¬ n = 0 ∧ (i < 0 ∨ n ≤ i ∨ j < i ∨ n ≤ j) ∧ c = 2)) : MC E Y_X7_againstRun [.ref m0, .int (iI i), .int (iI j)] [(m0, jO 7 [.int (iI thr), .int (iI ask), .int (iI fnd), .ref m1, .ref m2, .ref m3, .int (iI n), .int (iI wd), .ref m4, .ref m5, .int (iI mm), .ref m6, .ref m7, .int (iI um), .ref m8, .ref m9, .ref m10, .ref m11, .int (iI pd), .int (iI nd), .ref m12, .int (iI pal)]), (m1, jA E 5 (aI fm))] (fun rr N0 => rr = some (.int (iI (rz c))) ∧ N0 = [(m0, jO 7 [.int (iI thr), .int (iI ask), .int (iI (rf c fnd)), .ref m1, .ref m2, .ref m3, .int (iI n), .int (iI wd), .ref m4, .ref m5, .int (iI mm), .ref m6, .ref m7, .int (iI um), .ref m8, .ref m9, .ref m10, .ref m11, .int (iI pd), .int (iI nd), .ref m12, .int (iI pal)]), (m1, jA E 5 (aI (rm c fm)))]) := by
  refine MC.of (by decide) rfl rfl ?_
  refine j_aload_0 1 dX7_againstRun_0 rfl ?_
  refine j_get 4 0 gf_X7_81 dX7_againstRun_1 rfl rfl ?_
  refine j_if_ne 10 7 dX7_againstRun_4 (by first | with_reducible exact iI_rng _ | with_reducible exact bI_r _ | exact ⟨by omega, by omega⟩) (fun q4 => ?_) (fun q4 => ?_)
  · refine j_iload_1 11 dX7_againstRun_10 rfl ?_
    refine j_iconst 12 dX7_againstRun_11 ?_
    refine j_aload_0 13 dX7_againstRun_12 rfl ?_
    refine j_get 16 0 gf_X7_81 dX7_againstRun_13 rfl rfl ?_
    refine j_iconst 17 dX7_againstRun_16 ?_
    refine j_isub 18 dX7_againstRun_17 ?_
    refine j_callSi 21 Y_X7_in [] [_, _, _] (c_X7_in E _ _ _ (by first | with_reducible assumption | with_reducible exact iI_rng _ | exact ⟨by omega, by omega⟩) (by first | with_reducible assumption | with_reducible exact iI_rng _ | exact ⟨by omega, by omega⟩) (by first | with_reducible assumption | with_reducible exact iI_rng _ | exact ⟨by omega, by omega⟩)) m_X7_in wml_X7_56 dX7_againstRun_18 rfl rfl rfl rfl rfl rfl rfl ?_
    refine j_bif_eq 38 24 dX7_againstRun_21 (fun q21 => ?_) (fun q21 => ?_)
    · refine j_aload_0 39 dX7_againstRun_38 rfl ?_
      refine j_iconst 40 dX7_againstRun_39 ?_
      refine j_callV 43 Y_X7_found [0, 1] [_] (c_X7_found E _ _ _ _ _ _ _ _ _ _ _ _ _ _ _ _ _ _ _ _ _ _ _ _ 2 (by decide)) m_X7_found wml_X7_64 dX7_againstRun_40 0 rfl rfl rfl rfl rfl rfl rfl rfl rfl (fun r N h => by obtain ⟨rfl, rfl⟩ := h; rfl) (fun r N h => ?_)
      obtain ⟨rfl, rfl⟩ := h
      refine j_goto 47 dX7_againstRun_43 ?_
      obtain rfl : c = 2 := by omega
      exact j_iret dX7_againstRun_47 rfl rfl ⟨rfl, rfl⟩
    · refine j_iload_2 25 dX7_againstRun_24 rfl ?_
      refine j_iload_1 26 dX7_againstRun_25 rfl ?_
      refine j_aload_0 27 dX7_againstRun_26 rfl ?_
      refine j_get 30 0 gf_X7_81 dX7_againstRun_27 rfl rfl ?_
      refine j_iconst 31 dX7_againstRun_30 ?_
      refine j_isub 32 dX7_againstRun_31 ?_
      refine j_callSi 35 Y_X7_in [] [_, _, _] (c_X7_in E _ _ _ (by first | with_reducible assumption | with_reducible exact iI_rng _ | exact ⟨by omega, by omega⟩) (by first | with_reducible assumption | with_reducible exact iI_rng _ | exact ⟨by omega, by omega⟩) (by first | with_reducible assumption | with_reducible exact iI_rng _ | exact ⟨by omega, by omega⟩)) m_X7_in wml_X7_56 dX7_againstRun_32 rfl rfl rfl rfl rfl rfl rfl ?_
      refine j_bif_ne 46 38 dX7_againstRun_35 (fun q35 => ?_) (fun q35 => ?_)
      · omega
      · refine j_aload_0 39 dX7_againstRun_38 rfl ?_
        refine j_iconst 40 dX7_againstRun_39 ?_
        refine j_callV 43 Y_X7_found [0, 1] [_] (c_X7_found E _ _ _ _ _ _ _ _ _ _ _ _ _ _ _ _ _ _ _ _ _ _ _ _ 2 (by decide)) m_X7_found wml_X7_64 dX7_againstRun_40 0 rfl rfl rfl rfl rfl rfl rfl rfl rfl (fun r N h => by obtain ⟨rfl, rfl⟩ := h; rfl) (fun r N h => ?_)
        obtain ⟨rfl, rfl⟩ := h
        refine j_goto 47 dX7_againstRun_43 ?_
        obtain rfl : c = 2 := by omega
        exact j_iret dX7_againstRun_47 rfl rfl ⟨rfl, rfl⟩
  · refine j_bipush 9 dX7_againstRun_7 (by decide +kernel) ?_
    obtain rfl : c = -2 := by omega
    exact j_iret dX7_againstRun_9 rfl rfl ⟨rfl, rfl⟩

set_option maxRecDepth 100000 in
set_option maxHeartbeats 4000000 in
theorem c_X7_againstRun_ok (E : jD) (fnd : Int) (ask : Int) (wd : Int) (n : Int) (mm : Int) (um : Int) (nd : Int) (m0 : Nat) (m1 : Nat) (m2 : Nat) (m3 : Nat) (m4 : Nat) (m5 : Nat) (m6 : Nat) (m7 : Nat) (m8 : Nat) (m9 : Nat) (m10 : Nat) (m11 : Nat) (m12 : Nat) (thr : Int) (pd : Int) (pal : Int) (i j : Nat) (hn : 0 ≤ n ∧ n ≤ 48) (hij : i ≤ j) (hj : (j : Int) < n) : MC E Y_X7_againstRun [.ref m0, .int (iI (i : Int)), .int (iI (j : Int))] [(m0, jO 7 [.int (iI thr), .int (iI ask), .int (iI fnd), .ref m1, .ref m2, .ref m3, .int (iI n), .int (iI wd), .ref m4, .ref m5, .int (iI mm), .ref m6, .ref m7, .int (iI um), .ref m8, .ref m9, .ref m10, .ref m11, .int (iI pd), .int (iI nd), .ref m12, .int (iI pal)])] (fun rr N0 => rr = some (.int (iI (0))) ∧ N0 = [(m0, jO 7 [.int (iI thr), .int (iI ask), .int (iI fnd), .ref m1, .ref m2, .ref m3, .int (iI n), .int (iI wd), .ref m4, .ref m5, .int (iI mm), .ref m6, .ref m7, .int (iI um), .ref m8, .ref m9, .ref m10, .ref m11, .int (iI pd), .int (iI nd), .ref m12, .int (iI pal)])]) := by
  refine MC.of (by decide) rfl rfl ?_
  refine j_aload_0 1 dX7_againstRun_0 rfl ?_
  refine j_get 4 0 gf_X7_81 dX7_againstRun_1 rfl rfl ?_
  refine j_if_ne 10 7 dX7_againstRun_4 (by first | with_reducible exact iI_rng _ | with_reducible exact bI_r _ | exact ⟨by omega, by omega⟩) (fun q4 => ?_) (fun q4 => ?_)
  · refine j_iload_1 11 dX7_againstRun_10 rfl ?_
    refine j_iconst 12 dX7_againstRun_11 ?_
    refine j_aload_0 13 dX7_againstRun_12 rfl ?_
    refine j_get 16 0 gf_X7_81 dX7_againstRun_13 rfl rfl ?_
    refine j_iconst 17 dX7_againstRun_16 ?_
    refine j_isub 18 dX7_againstRun_17 ?_
    refine j_callSi 21 Y_X7_in [] [_, _, _] (c_X7_in E _ _ _ (by first | with_reducible assumption | with_reducible exact iI_rng _ | exact ⟨by omega, by omega⟩) (by first | with_reducible assumption | with_reducible exact iI_rng _ | exact ⟨by omega, by omega⟩) (by first | with_reducible assumption | with_reducible exact iI_rng _ | exact ⟨by omega, by omega⟩)) m_X7_in wml_X7_56 dX7_againstRun_18 rfl rfl rfl rfl rfl rfl rfl ?_
    refine j_bif_eq 38 24 dX7_againstRun_21 (fun q21 => ?_) (fun q21 => ?_)
    · omega
    · refine j_iload_2 25 dX7_againstRun_24 rfl ?_
      refine j_iload_1 26 dX7_againstRun_25 rfl ?_
      refine j_aload_0 27 dX7_againstRun_26 rfl ?_
      refine j_get 30 0 gf_X7_81 dX7_againstRun_27 rfl rfl ?_
      refine j_iconst 31 dX7_againstRun_30 ?_
      refine j_isub 32 dX7_againstRun_31 ?_
      refine j_callSi 35 Y_X7_in [] [_, _, _] (c_X7_in E _ _ _ (by first | with_reducible assumption | with_reducible exact iI_rng _ | exact ⟨by omega, by omega⟩) (by first | with_reducible assumption | with_reducible exact iI_rng _ | exact ⟨by omega, by omega⟩) (by first | with_reducible assumption | with_reducible exact iI_rng _ | exact ⟨by omega, by omega⟩)) m_X7_in wml_X7_56 dX7_againstRun_32 rfl rfl rfl rfl rfl rfl rfl ?_
      refine j_bif_ne 46 38 dX7_againstRun_35 (fun q35 => ?_) (fun q35 => ?_)
      · refine j_iconst 47 dX7_againstRun_46 ?_
        exact j_iret dX7_againstRun_47 rfl rfl ⟨rfl, rfl⟩
      · omega
  · omega

set_option maxRecDepth 100000 in
set_option maxHeartbeats 4000000 in
theorem c_X7_isNode (E : jD) (fnd : Int) (ask : Int) (wd : Int) (n : Int) (mm : Int) (um : Int) (nd : Int) (m0 : Nat) (m1 : Nat) (m2 : Nat) (m3 : Nat) (m4 : Nat) (m5 : Nat) (m6 : Nat) (m7 : Nat) (m8 : Nat) (m9 : Nat) (m10 : Nat) (m11 : Nat) (m12 : Nat) (thr : Int) (pd : Int) (pal : Int) (u : Int) (hnd : 0 ≤ nd ∧ nd ≤ 24) (hu : jr u) : MC E Y_X7_isNode [.ref m0, .int (iI u)] [(m0, jO 7 [.int (iI thr), .int (iI ask), .int (iI fnd), .ref m1, .ref m2, .ref m3, .int (iI n), .int (iI wd), .ref m4, .ref m5, .int (iI mm), .ref m6, .ref m7, .int (iI um), .ref m8, .ref m9, .ref m10, .ref m11, .int (iI pd), .int (iI nd), .ref m12, .int (iI pal)])] (fun rr N0 => rr = some (.int (iI (bI (0 ≤ u ∧ u ≤ nd - 1)))) ∧ N0 = [(m0, jO 7 [.int (iI thr), .int (iI ask), .int (iI fnd), .ref m1, .ref m2, .ref m3, .int (iI n), .int (iI wd), .ref m4, .ref m5, .int (iI mm), .ref m6, .ref m7, .int (iI um), .ref m8, .ref m9, .ref m10, .ref m11, .int (iI pd), .int (iI nd), .ref m12, .int (iI pal)])]) := by
  refine MC.of (by decide) rfl rfl ?_
  refine j_iload_1 1 dX7_isNode_0 rfl ?_
  refine j_iconst 2 dX7_isNode_1 ?_
  refine j_aload_0 3 dX7_isNode_2 rfl ?_
  refine j_get 6 0 gf_X7_140 dX7_isNode_3 rfl rfl ?_
  refine j_iconst 7 dX7_isNode_6 ?_
  refine j_isub 8 dX7_isNode_7 ?_
  refine j_callSi 11 Y_X7_in [] [_, _, _] (c_X7_in E _ _ _ (by first | with_reducible assumption | with_reducible exact iI_rng _ | exact ⟨by omega, by omega⟩) (by first | with_reducible assumption | with_reducible exact iI_rng _ | exact ⟨by omega, by omega⟩) (by first | with_reducible assumption | with_reducible exact iI_rng _ | exact ⟨by omega, by omega⟩)) m_X7_in wml_X7_56 dX7_isNode_8 rfl rfl rfl rfl rfl rfl rfl ?_
  exact j_zret (by first | exact bI_n _ | decide +kernel) dX7_isNode_11 rfl rfl ⟨rfl, rfl⟩

set_option maxRecDepth 100000 in
set_option maxHeartbeats 4000000 in
theorem c_X7_againstNodes_no (E : jD) (fnd : Int) (ask : Int) (wd : Int) (n : Int) (mm : Int) (um : Int) (nd : Int) (fm : Nat → Int) (m0 : Nat) (m1 : Nat) (m2 : Nat) (m3 : Nat) (m4 : Nat) (m5 : Nat) (m6 : Nat) (m7 : Nat) (m8 : Nat) (m9 : Nat) (m10 : Nat) (m11 : Nat) (m12 : Nat) (thr : Int) (pd : Int) (pal : Int) (u v c : Int) (hnd : 0 ≤ nd ∧ nd ≤ 24) (hu : jr u) (hv : jr v) (hc : (nd = 0 ∧ c = -2) ∨ (¬ nd = 0 ∧ (u < 0 ∨ nd ≤ u ∨ v < 0 ∨ nd ≤ v) ∧ c = 2)) : MC E Y_X7_againstNodes [.ref m0, .int (iI u), .int (iI v)] [(m0, jO 7 [.int (iI thr), .int (iI ask), .int (iI fnd), .ref m1, .ref m2, .ref m3, .int (iI n), .int (iI wd), .ref m4, .ref m5, .int (iI mm), .ref m6, .ref m7, .int (iI um), .ref m8, .ref m9, .ref m10, .ref m11, .int (iI pd), .int (iI nd), .ref m12, .int (iI pal)]), (m1, jA E 5 (aI fm))] (fun rr N0 => rr = some (.int (iI (rz c))) ∧ N0 = [(m0, jO 7 [.int (iI thr), .int (iI ask), .int (iI (rf c fnd)), .ref m1, .ref m2, .ref m3, .int (iI n), .int (iI wd), .ref m4, .ref m5, .int (iI mm), .ref m6, .ref m7, .int (iI um), .ref m8, .ref m9, .ref m10, .ref m11, .int (iI pd), .int (iI nd), .ref m12, .int (iI pal)]), (m1, jA E 5 (aI (rm c fm)))]) := by
  refine MC.of (by decide) rfl rfl ?_
  refine j_aload_0 1 dX7_againstNodes_0 rfl ?_
  refine j_get 4 0 gf_X7_140 dX7_againstNodes_1 rfl rfl ?_
  refine j_if_ne 12 7 dX7_againstNodes_4 (by first | with_reducible exact iI_rng _ | with_reducible exact bI_r _ | exact ⟨by omega, by omega⟩) (fun q4 => ?_) (fun q4 => ?_)
  · refine j_aload_0 13 dX7_againstNodes_12 rfl ?_
    refine j_iload_1 14 dX7_againstNodes_13 rfl ?_
    refine j_callVi 17 Y_X7_isNode [0] [_] (c_X7_isNode E _ _ _ _ _ _ _ _ _ _ _ _ _ _ _ _ _ _ _ _ _ _ _ _ hnd (by first | with_reducible assumption | with_reducible exact iI_rng _ | exact ⟨by omega, by omega⟩)) m_X7_isNode wml_X7_149 dX7_againstNodes_14 0 rfl rfl rfl rfl rfl rfl rfl rfl rfl rfl ?_
    refine j_bif_eq 28 20 dX7_againstNodes_17 (fun q17 => ?_) (fun q17 => ?_)
    · obtain rfl : c = 2 := by omega
      refine j_aload_0 29 dX7_againstNodes_28 rfl ?_
      refine j_iconst 30 dX7_againstNodes_29 ?_
      refine j_callV 33 Y_X7_found [0, 1] [_] (c_X7_found E _ _ _ _ _ _ _ _ _ _ _ _ _ _ _ _ _ _ _ _ _ _ _ _ 2 (by decide)) m_X7_found wml_X7_64 dX7_againstNodes_30 0 rfl rfl rfl rfl rfl rfl rfl rfl rfl (fun r N h => by obtain ⟨rfl, rfl⟩ := h; rfl) (fun r N h => ?_)
      obtain ⟨rfl, rfl⟩ := h
      refine j_goto 37 dX7_againstNodes_33 ?_
      exact j_iret dX7_againstNodes_37 rfl rfl ⟨rfl, rfl⟩
    · refine j_aload_0 21 dX7_againstNodes_20 rfl ?_
      refine j_iload_2 22 dX7_againstNodes_21 rfl ?_
      refine j_callVi 25 Y_X7_isNode [0] [_] (c_X7_isNode E _ _ _ _ _ _ _ _ _ _ _ _ _ _ _ _ _ _ _ _ _ _ _ _ hnd (by first | with_reducible assumption | with_reducible exact iI_rng _ | exact ⟨by omega, by omega⟩)) m_X7_isNode wml_X7_149 dX7_againstNodes_22 0 rfl rfl rfl rfl rfl rfl rfl rfl rfl rfl ?_
      refine j_bif_ne 36 28 dX7_againstNodes_25 (fun q25 => ?_) (fun q25 => ?_)
      · omega
      · obtain rfl : c = 2 := by omega
        refine j_aload_0 29 dX7_againstNodes_28 rfl ?_
        refine j_iconst 30 dX7_againstNodes_29 ?_
        refine j_callV 33 Y_X7_found [0, 1] [_] (c_X7_found E _ _ _ _ _ _ _ _ _ _ _ _ _ _ _ _ _ _ _ _ _ _ _ _ 2 (by decide)) m_X7_found wml_X7_64 dX7_againstNodes_30 0 rfl rfl rfl rfl rfl rfl rfl rfl rfl (fun r N h => by obtain ⟨rfl, rfl⟩ := h; rfl) (fun r N h => ?_)
        obtain ⟨rfl, rfl⟩ := h
        refine j_goto 37 dX7_againstNodes_33 ?_
        exact j_iret dX7_againstNodes_37 rfl rfl ⟨rfl, rfl⟩
  · obtain rfl : c = -2 := by omega
    refine j_bipush 9 dX7_againstNodes_7 (by decide +kernel) ?_
    refine j_goto 37 dX7_againstNodes_9 ?_
    exact j_iret dX7_againstNodes_37 rfl rfl ⟨rfl, rfl⟩

set_option maxRecDepth 100000 in
set_option maxHeartbeats 4000000 in
theorem c_X7_againstNodes_ok (E : jD) (fnd : Int) (ask : Int) (wd : Int) (n : Int) (mm : Int) (um : Int) (nd : Int) (m0 : Nat) (m1 : Nat) (m2 : Nat) (m3 : Nat) (m4 : Nat) (m5 : Nat) (m6 : Nat) (m7 : Nat) (m8 : Nat) (m9 : Nat) (m10 : Nat) (m11 : Nat) (m12 : Nat) (thr : Int) (pd : Int) (pal : Int) (u v : Nat) (hnd : 0 ≤ nd ∧ nd ≤ 24) (hu : (u : Int) < nd) (hv : (v : Int) < nd) : MC E Y_X7_againstNodes [.ref m0, .int (iI (u : Int)), .int (iI (v : Int))] [(m0, jO 7 [.int (iI thr), .int (iI ask), .int (iI fnd), .ref m1, .ref m2, .ref m3, .int (iI n), .int (iI wd), .ref m4, .ref m5, .int (iI mm), .ref m6, .ref m7, .int (iI um), .ref m8, .ref m9, .ref m10, .ref m11, .int (iI pd), .int (iI nd), .ref m12, .int (iI pal)])] (fun rr N0 => rr = some (.int (iI (0))) ∧ N0 = [(m0, jO 7 [.int (iI thr), .int (iI ask), .int (iI fnd), .ref m1, .ref m2, .ref m3, .int (iI n), .int (iI wd), .ref m4, .ref m5, .int (iI mm), .ref m6, .ref m7, .int (iI um), .ref m8, .ref m9, .ref m10, .ref m11, .int (iI pd), .int (iI nd), .ref m12, .int (iI pal)])]) := by
  refine MC.of (by decide) rfl rfl ?_
  refine j_aload_0 1 dX7_againstNodes_0 rfl ?_
  refine j_get 4 0 gf_X7_140 dX7_againstNodes_1 rfl rfl ?_
  refine j_if_ne 12 7 dX7_againstNodes_4 (by first | with_reducible exact iI_rng _ | with_reducible exact bI_r _ | exact ⟨by omega, by omega⟩) (fun q4 => ?_) (fun q4 => ?_)
  · refine j_aload_0 13 dX7_againstNodes_12 rfl ?_
    refine j_iload_1 14 dX7_againstNodes_13 rfl ?_
    refine j_callVi 17 Y_X7_isNode [0] [_] (c_X7_isNode E _ _ _ _ _ _ _ _ _ _ _ _ _ _ _ _ _ _ _ _ _ _ _ _ hnd (by first | with_reducible assumption | with_reducible exact iI_rng _ | exact ⟨by omega, by omega⟩)) m_X7_isNode wml_X7_149 dX7_againstNodes_14 0 rfl rfl rfl rfl rfl rfl rfl rfl rfl rfl ?_
    refine j_bif_eq 28 20 dX7_againstNodes_17 (fun q17 => ?_) (fun q17 => ?_)
    · omega
    · refine j_aload_0 21 dX7_againstNodes_20 rfl ?_
      refine j_iload_2 22 dX7_againstNodes_21 rfl ?_
      refine j_callVi 25 Y_X7_isNode [0] [_] (c_X7_isNode E _ _ _ _ _ _ _ _ _ _ _ _ _ _ _ _ _ _ _ _ _ _ _ _ hnd (by first | with_reducible assumption | with_reducible exact iI_rng _ | exact ⟨by omega, by omega⟩)) m_X7_isNode wml_X7_149 dX7_againstNodes_22 0 rfl rfl rfl rfl rfl rfl rfl rfl rfl rfl ?_
      refine j_bif_ne 36 28 dX7_againstNodes_25 (fun q25 => ?_) (fun q25 => ?_)
      · refine j_iconst 37 dX7_againstNodes_36 ?_
        exact j_iret dX7_againstNodes_37 rfl rfl ⟨rfl, rfl⟩
      · omega
  · omega

set_option maxRecDepth 100000 in
set_option maxHeartbeats 4000000 in
theorem c_X7_isPart (E : jD) (fnd : Int) (ask : Int) (wd : Int) (n : Int) (mm : Int) (um : Int) (nd : Int) (m0 : Nat) (m1 : Nat) (m2 : Nat) (m3 : Nat) (m4 : Nat) (m5 : Nat) (m6 : Nat) (m7 : Nat) (m8 : Nat) (m9 : Nat) (m10 : Nat) (m11 : Nat) (m12 : Nat) (thr : Int) (pd : Int) (pal : Int) (rn : Nat → Int) (r : Nat) (i m : Int) (hr4 : r < 4) (hN : -1 ≤ rn r ∧ rn r ≤ 48) (hi : jr i) (hm : jr m) : MC E Y_X7_isPart [.ref m0, .int (iI (r : Int)), .int (iI i), .int (iI m)] [(m0, jO 7 [.int (iI thr), .int (iI ask), .int (iI fnd), .ref m1, .ref m2, .ref m3, .int (iI n), .int (iI wd), .ref m4, .ref m5, .int (iI mm), .ref m6, .ref m7, .int (iI um), .ref m8, .ref m9, .ref m10, .ref m11, .int (iI pd), .int (iI nd), .ref m12, .int (iI pal)]), (m3, jA E 4 (aI rn))] (fun rr N0 => rr = some (.int (iI (bI (0 ≤ m ∧ 0 ≤ i ∧ m ≤ rn r - i)))) ∧ N0 = [(m0, jO 7 [.int (iI thr), .int (iI ask), .int (iI fnd), .ref m1, .ref m2, .ref m3, .int (iI n), .int (iI wd), .ref m4, .ref m5, .int (iI mm), .ref m6, .ref m7, .int (iI um), .ref m8, .ref m9, .ref m10, .ref m11, .int (iI pd), .int (iI nd), .ref m12, .int (iI pal)]), (m3, jA E 4 (aI rn))]) := by
  refine MC.of (by decide) rfl rfl ?_
  refine j_iload_3 1 dX7_isPart_0 rfl ?_
  refine j_if_lt 34 4 dX7_isPart_1 (by first | with_reducible exact iI_rng _ | with_reducible exact bI_r _ | exact ⟨by omega, by omega⟩) (fun q1 => ?_) (fun q1 => ?_)
  · refine j_iconst 35 dX7_isPart_34 ?_
    exact j_zret (by first | exact bI_n _ | decide +kernel) dX7_isPart_35 rfl rfl ⟨congrArg (fun z => some (Value.int (iI z))) (by first | exact (bI_t (by omega)).symm | exact (bI_f (by omega)).symm), rfl⟩
  · refine j_iload_2 5 dX7_isPart_4 rfl ?_
    refine j_iconst 6 dX7_isPart_5 ?_
    refine j_aload_0 7 dX7_isPart_6 rfl ?_
    refine j_get 10 0 gf_X7_16 dX7_isPart_7 rfl rfl ?_
    refine j_iload_1 11 dX7_isPart_10 rfl ?_
    refine j_ialdw 12 1 _ (rn r) dX7_isPart_11 rfl rfl rfl (by omega) rfl ?_
    refine j_callSi 15 Y_X7_in [] [_, _, _] (c_X7_in E _ _ _ (by first | with_reducible assumption | with_reducible exact iI_rng _ | exact ⟨by omega, by omega⟩) (by first | with_reducible assumption | with_reducible exact iI_rng _ | exact ⟨by omega, by omega⟩) (by first | with_reducible assumption | with_reducible exact iI_rng _ | exact ⟨by omega, by omega⟩)) m_X7_in wml_X7_56 dX7_isPart_12 rfl rfl rfl rfl rfl rfl rfl ?_
    refine j_bif_eq 34 18 dX7_isPart_15 (fun q15 => ?_) (fun q15 => ?_)
    · refine j_iconst 35 dX7_isPart_34 ?_
      exact j_zret (by first | exact bI_n _ | decide +kernel) dX7_isPart_35 rfl rfl ⟨congrArg (fun z => some (Value.int (iI z))) (by first | exact (bI_t (by omega)).symm | exact (bI_f (by omega)).symm), rfl⟩
    · refine j_iload_3 19 dX7_isPart_18 rfl ?_
      refine j_aload_0 20 dX7_isPart_19 rfl ?_
      refine j_get 23 0 gf_X7_16 dX7_isPart_20 rfl rfl ?_
      refine j_iload_1 24 dX7_isPart_23 rfl ?_
      refine j_ialdw 25 1 _ (rn r) dX7_isPart_24 rfl rfl rfl (by omega) rfl ?_
      refine j_iload_2 26 dX7_isPart_25 rfl ?_
      refine j_isub 27 dX7_isPart_26 ?_
      refine j_icmp_gt 34 30 dX7_isPart_27 (by first | with_reducible exact iI_rng _ | with_reducible exact bI_r _ | exact ⟨by omega, by omega⟩) (by first | with_reducible exact iI_rng _ | with_reducible exact bI_r _ | exact ⟨by omega, by omega⟩) (fun q27 => ?_) (fun q27 => ?_)
      · refine j_iconst 35 dX7_isPart_34 ?_
        exact j_zret (by first | exact bI_n _ | decide +kernel) dX7_isPart_35 rfl rfl ⟨congrArg (fun z => some (Value.int (iI z))) (by first | exact (bI_t (by omega)).symm | exact (bI_f (by omega)).symm), rfl⟩
      · refine j_iconst 31 dX7_isPart_30 ?_
        refine j_goto 35 dX7_isPart_31 ?_
        exact j_zret (by first | exact bI_n _ | decide +kernel) dX7_isPart_35 rfl rfl ⟨congrArg (fun z => some (Value.int (iI z))) (by first | exact (bI_t (by omega)).symm | exact (bI_f (by omega)).symm), rfl⟩

set_option maxRecDepth 100000 in
set_option maxHeartbeats 4000000 in
theorem c_X7_blocks (E : jD) (fnd : Int) (ask : Int) (mm : Int) (um : Int) (nd : Int) (m0 : Nat) (m1 : Nat) (m2 : Nat) (m3 : Nat) (m4 : Nat) (m5 : Nat) (m6 : Nat) (m7 : Nat) (m8 : Nat) (m9 : Nat) (m10 : Nat) (m11 : Nat) (m12 : Nat) (thr : Int) (pd : Int) (pal : Int) (n wd : Nat) (hnw : (n = 0 ∧ wd = 0) ∨ (1 ≤ wd ∧ wd ≤ 6 ∧ n ≤ 48)) : MC E Y_X7_blocks [.ref m0] [(m0, jO 7 [.int (iI thr), .int (iI ask), .int (iI fnd), .ref m1, .ref m2, .ref m3, .int (iI (n : Int)), .int (iI (wd : Int)), .ref m4, .ref m5, .int (iI mm), .ref m6, .ref m7, .int (iI um), .ref m8, .ref m9, .ref m10, .ref m11, .int (iI pd), .int (iI nd), .ref m12, .int (iI pal)])] (fun rr N0 => rr = some (.int (iI ((nB n wd : Nat)))) ∧ N0 = [(m0, jO 7 [.int (iI thr), .int (iI ask), .int (iI fnd), .ref m1, .ref m2, .ref m3, .int (iI (n : Int)), .int (iI (wd : Int)), .ref m4, .ref m5, .int (iI mm), .ref m6, .ref m7, .int (iI um), .ref m8, .ref m9, .ref m10, .ref m11, .int (iI pd), .int (iI nd), .ref m12, .int (iI pal)])]) := by
  refine MC.of (by decide) rfl rfl ?_
  refine j_aload_0 1 dX7_blocks_0 rfl ?_
  refine j_get 4 0 gf_X7_78 dX7_blocks_1 rfl rfl ?_
  refine j_if_ne 11 7 dX7_blocks_4 (by first | with_reducible exact iI_rng _ | with_reducible exact bI_r _ | exact ⟨by omega, by omega⟩) (fun q4 => ?_) (fun q4 => ?_)
  · refine j_aload_0 12 dX7_blocks_11 rfl ?_
    refine j_get 15 0 gf_X7_81 dX7_blocks_12 rfl rfl ?_
    refine j_aload_0 16 dX7_blocks_15 rfl ?_
    refine j_get 19 0 gf_X7_78 dX7_blocks_16 rfl rfl ?_
    refine j_iadd 20 dX7_blocks_19 ?_
    refine j_iconst 21 dX7_blocks_20 ?_
    refine j_isub 22 dX7_blocks_21 ?_
    refine j_aload_0 23 dX7_blocks_22 rfl ?_
    refine j_get 26 0 gf_X7_78 dX7_blocks_23 rfl rfl ?_
    refine j_idiv 27 dX7_blocks_26 (by omega) (by omega) (by first | with_reducible exact iI_rng _ | with_reducible exact bI_r _ | exact ⟨by omega, by omega⟩) (by first | with_reducible exact iI_rng _ | with_reducible exact bI_r _ | exact ⟨by omega, by omega⟩) ?_
    refine j_top ((nB n wd : Nat) : Int) (congrArg iI (by rw [show (n : Int) + wd - 1 = ((n + wd - 1 : Nat) : Int) by omega]; rfl)) ?_
    exact j_iret dX7_blocks_27 rfl rfl ⟨rfl, rfl⟩
  · obtain rfl : wd = 0 := by omega
    obtain rfl : n = 0 := by omega
    refine j_iconst 8 dX7_blocks_7 ?_
    refine j_goto 27 dX7_blocks_8 ?_
    exact j_iret dX7_blocks_27 rfl rfl ⟨rfl, rfl⟩

set_option maxRecDepth 100000 in
set_option maxHeartbeats 4000000 in
theorem lp7_leastOf (E : jD) (fnd : Int) (ask : Int) (wd : Int) (mm : Int) (um : Int) (nd : Int) (m0 : Nat) (m1 : Nat) (m2 : Nat) (m3 : Nat) (m4 : Nat) (m5 : Nat) (m6 : Nat) (m7 : Nat) (m8 : Nat) (m9 : Nat) (m10 : Nat) (m11 : Nat) (m12 : Nat) (thr : Int) (pd : Int) (pal : Int) (it : Nat → Int32) (n : Nat) (i j : Nat) (hj : j < 48) (hij : i ≤ j) : ∀ (d : Nat) (d0 : Nat), j - i - d0 < d → (d0 ≤ j - i) → J E Y_X7_leastOf (jZm E Y_X7_leastOf (fun rr N0 => rr = some (.int (iI ((lsF (tI it) i (j - i) : Nat)))) ∧ N0 = [(m0, jO 7 [.int (iI thr), .int (iI ask), .int (iI fnd), .ref m1, .ref m2, .ref m3, .int (iI (n : Int)), .int (iI wd), .ref m4, .ref m5, .int (iI mm), .ref m6, .ref m7, .int (iI um), .ref m8, .ref m9, .ref m10, .ref m11, .int (iI pd), .int (iI nd), .ref m12, .int (iI pal)]), (m4, jA E 48 it)])) 0 0 7 [(0, .ref m0), (1, .int (iI (i : Int))), (2, .int (iI (j : Int))), (3, .int (iI ((lsF (tI it) i d0 : Nat) : Int))), (4, .int (iI ((i + d0 + 1 : Nat) : Int)))] [] [(m0, jO 7 [.int (iI thr), .int (iI ask), .int (iI fnd), .ref m1, .ref m2, .ref m3, .int (iI (n : Int)), .int (iI wd), .ref m4, .ref m5, .int (iI mm), .ref m6, .ref m7, .int (iI um), .ref m8, .ref m9, .ref m10, .ref m11, .int (iI pd), .int (iI nd), .ref m12, .int (iI pal)]), (m4, jA E 48 it)] := by
  intro d
  induction d with
  | zero => intros; omega
  | succ d ih =>
    intro d0 hd hk
    have hl0 := lsF_in (tI it) i d0
    refine j_iload 9 dX7_leastOf_7 rfl ?_
    refine j_iload_2 10 dX7_leastOf_9 rfl ?_
    refine j_icmp_gt 42 13 dX7_leastOf_10 (by first | with_reducible exact iI_rng _ | with_reducible exact bI_r _ | exact ⟨by omega, by omega⟩) (by first | with_reducible exact iI_rng _ | with_reducible exact bI_r _ | exact ⟨by omega, by omega⟩) (fun q10 => ?_) (fun q10 => ?_)
    · have e : d0 = j - i := by omega
      subst e
      refine j_iload_3 43 dX7_leastOf_42 rfl ?_
      exact j_iret dX7_leastOf_43 rfl rfl ⟨rfl, rfl⟩
    · refine j_aload_0 14 dX7_leastOf_13 rfl ?_
      refine j_get 17 0 gf_X7_19 dX7_leastOf_14 rfl rfl ?_
      refine j_iload 19 dX7_leastOf_17 rfl ?_
      refine j_iald 20 1 _ dX7_leastOf_19 rfl rfl rfl (by omega) ?_
      refine j_aload_0 21 dX7_leastOf_20 rfl ?_
      refine j_get 24 0 gf_X7_19 dX7_leastOf_21 rfl rfl ?_
      refine j_iload_3 25 dX7_leastOf_24 rfl ?_
      refine j_iald 26 1 _ dX7_leastOf_25 rfl rfl rfl (by omega) ?_
      refine j_icmp_ge 34 29 dX7_leastOf_26 (by first | with_reducible exact iI_rng _ | with_reducible exact bI_r _ | exact ⟨by omega, by omega⟩) (by first | with_reducible exact iI_rng _ | with_reducible exact bI_r _ | exact ⟨by omega, by omega⟩) (fun q26 => ?_) (fun q26 => ?_)
      · have e : lsF (tI it) i (d0 + 1) = lsF (tI it) i d0 := if_neg (by show ¬ (it (i + d0 + 1)).toInt < (it (lsF (tI it) i d0)).toInt; omega)
        refine j_iload_3 35 dX7_leastOf_34 rfl ?_
        refine j_istore_3 36 (lv' := [(0, _), (1, _), (2, _), (3, _), (4, _)]) dX7_leastOf_35 rfl ⟨rfl, rfl⟩ ?_
        refine j_iinc 39 (lv' := [(0, _), (1, _), (2, _), (3, _), (4, _)]) dX7_leastOf_36 rfl rfl ⟨rfl, rfl⟩ ?_
        refine j_goto 7 dX7_leastOf_39 ?_
        have h := ih (d0 + 1) (by omega) (by omega)
        rw [e] at h
        exact h
      · have e : lsF (tI it) i (d0 + 1) = i + d0 + 1 := if_pos (by show (it (i + d0 + 1)).toInt < (it (lsF (tI it) i d0)).toInt; omega)
        refine j_iload 31 dX7_leastOf_29 rfl ?_
        refine j_goto 35 dX7_leastOf_31 ?_
        refine j_istore_3 36 (lv' := [(0, _), (1, _), (2, _), (3, _), (4, _)]) dX7_leastOf_35 rfl ⟨rfl, rfl⟩ ?_
        refine j_iinc 39 (lv' := [(0, _), (1, _), (2, _), (3, _), (4, _)]) dX7_leastOf_36 rfl rfl ⟨rfl, rfl⟩ ?_
        refine j_goto 7 dX7_leastOf_39 ?_
        have h := ih (d0 + 1) (by omega) (by omega)
        rw [e] at h
        exact h

set_option maxRecDepth 100000 in
set_option maxHeartbeats 4000000 in
theorem c_X7_leastOf (E : jD) (fnd : Int) (ask : Int) (wd : Int) (mm : Int) (um : Int) (nd : Int) (m0 : Nat) (m1 : Nat) (m2 : Nat) (m3 : Nat) (m4 : Nat) (m5 : Nat) (m6 : Nat) (m7 : Nat) (m8 : Nat) (m9 : Nat) (m10 : Nat) (m11 : Nat) (m12 : Nat) (thr : Int) (pd : Int) (pal : Int) (it : Nat → Int32) (n : Nat) (i j : Nat) (hj : j < 48) (hij : i ≤ j) : MC E Y_X7_leastOf [.ref m0, .int (iI (i : Int)), .int (iI (j : Int))] [(m0, jO 7 [.int (iI thr), .int (iI ask), .int (iI fnd), .ref m1, .ref m2, .ref m3, .int (iI (n : Int)), .int (iI wd), .ref m4, .ref m5, .int (iI mm), .ref m6, .ref m7, .int (iI um), .ref m8, .ref m9, .ref m10, .ref m11, .int (iI pd), .int (iI nd), .ref m12, .int (iI pal)]), (m4, jA E 48 it)] (fun rr N0 => rr = some (.int (iI ((lsF (tI it) i (j - i) : Nat)))) ∧ N0 = [(m0, jO 7 [.int (iI thr), .int (iI ask), .int (iI fnd), .ref m1, .ref m2, .ref m3, .int (iI (n : Int)), .int (iI wd), .ref m4, .ref m5, .int (iI mm), .ref m6, .ref m7, .int (iI um), .ref m8, .ref m9, .ref m10, .ref m11, .int (iI pd), .int (iI nd), .ref m12, .int (iI pal)]), (m4, jA E 48 it)]) := by
  refine MC.of (by decide) rfl rfl ?_
  refine j_iload_1 1 dX7_leastOf_0 rfl ?_
  refine j_istore_3 2 (lv' := [(0, _), (1, _), (2, _), (3, _)]) dX7_leastOf_1 rfl ⟨rfl, rfl⟩ ?_
  refine j_iload_1 3 dX7_leastOf_2 rfl ?_
  refine j_iconst 4 dX7_leastOf_3 ?_
  refine j_iadd 5 dX7_leastOf_4 ?_
  refine j_istore 7 (lv' := [(0, _), (1, _), (2, _), (3, _), (4, _)]) dX7_leastOf_5 rfl ⟨rfl, rfl⟩ ?_
  exact lp7_leastOf E fnd ask wd mm um nd m0 m1 m2 m3 m4 m5 m6 m7 m8 m9 m10 m11 m12 thr pd pal it n i j hj hij (j - i + 1) 0 (by omega) (by omega)

set_option maxRecDepth 100000 in
set_option maxHeartbeats 4000000 in
theorem lp7_leftOf (E : jD) (fnd : Int) (ask : Int) (wd : Int) (mm : Int) (um : Int) (nd : Int) (m0 : Nat) (m1 : Nat) (m2 : Nat) (m3 : Nat) (m4 : Nat) (m5 : Nat) (m6 : Nat) (m7 : Nat) (m8 : Nat) (m9 : Nat) (m10 : Nat) (m11 : Nat) (m12 : Nat) (thr : Int) (pd : Int) (pal : Int) (it : Nat → Int32) (n : Nat) (i : Nat) (hi : i < 48) : ∀ (d : Nat) (m : Nat), m < d → (m ≤ i) → (lfF (tI it) ((tI it) i) m = lfE (tI it) i) → J E Y_X7_leftOf (jZm E Y_X7_leftOf (fun rr N0 => rr = some (.int (iI (lfE (tI it) i))) ∧ N0 = [(m0, jO 7 [.int (iI thr), .int (iI ask), .int (iI fnd), .ref m1, .ref m2, .ref m3, .int (iI (n : Int)), .int (iI wd), .ref m4, .ref m5, .int (iI mm), .ref m6, .ref m7, .int (iI um), .ref m8, .ref m9, .ref m10, .ref m11, .int (iI pd), .int (iI nd), .ref m12, .int (iI pal)]), (m4, jA E 48 it)])) 0 0 4 [(0, .ref m0), (1, .int (iI (i : Int))), (2, .int (iI ((m : Int) - 1)))] [] [(m0, jO 7 [.int (iI thr), .int (iI ask), .int (iI fnd), .ref m1, .ref m2, .ref m3, .int (iI (n : Int)), .int (iI wd), .ref m4, .ref m5, .int (iI mm), .ref m6, .ref m7, .int (iI um), .ref m8, .ref m9, .ref m10, .ref m11, .int (iI pd), .int (iI nd), .ref m12, .int (iI pal)]), (m4, jA E 48 it)] := by
  intro d
  induction d with
  | zero => intros; omega
  | succ d ih =>
    intro m hd hm he
    refine j_iload_2 5 dX7_leftOf_4 rfl ?_
    refine j_if_lt 29 8 dX7_leftOf_5 (by first | with_reducible exact iI_rng _ | with_reducible exact bI_r _ | exact ⟨by omega, by omega⟩) (fun q5 => ?_) (fun q5 => ?_)
    · have e : m = 0 := by omega
      subst e
      refine j_iload_2 30 dX7_leftOf_29 rfl ?_
      exact j_iret dX7_leftOf_30 rfl rfl ⟨congrArg (fun z => some (Value.int (iI z))) (by rw [← he]; first | rfl | (rw [e2]; omega)), rfl⟩
    · obtain ⟨m, rfl⟩ : ∃ q2, m = q2 + 1 := ⟨m - 1, by omega⟩
      refine j_aload_0 9 dX7_leftOf_8 rfl ?_
      refine j_get 12 0 gf_X7_19 dX7_leftOf_9 rfl rfl ?_
      refine j_iload_2 13 dX7_leftOf_12 rfl ?_
      refine j_iald 14 1 (m) dX7_leftOf_13 rfl rfl (by omega) (by omega) ?_
      refine j_aload_0 15 dX7_leftOf_14 rfl ?_
      refine j_get 18 0 gf_X7_19 dX7_leftOf_15 rfl rfl ?_
      refine j_iload_1 19 dX7_leftOf_18 rfl ?_
      refine j_iald 20 1 _ dX7_leftOf_19 rfl rfl rfl (by omega) ?_
      refine j_icmp_le 29 23 dX7_leftOf_20 (by first | with_reducible exact iI_rng _ | with_reducible exact bI_r _ | exact ⟨by omega, by omega⟩) (by first | with_reducible exact iI_rng _ | with_reducible exact bI_r _ | exact ⟨by omega, by omega⟩) (fun q20 => ?_) (fun q20 => ?_)
      · have e2 : lfF (tI it) ((tI it) i) (m + 1) = (m : Int) := if_neg (by show ¬ (it i).toInt < (it m).toInt; omega)
        refine j_iload_2 30 dX7_leftOf_29 rfl ?_
        exact j_iret dX7_leftOf_30 rfl rfl ⟨congrArg (fun z => some (Value.int (iI z))) (by rw [← he]; first | rfl | (rw [e2]; omega)), rfl⟩
      · have e2 : lfF (tI it) ((tI it) i) (m + 1) = lfF (tI it) ((tI it) i) m := if_pos (by show (it i).toInt < (it m).toInt; omega)
        refine j_iinc 26 (lv' := [(0, _), (1, _), (2, _)]) dX7_leftOf_23 rfl rfl ⟨rfl, rfl⟩ ?_
        refine j_goto 4 dX7_leftOf_26 ?_
        have h := ih m (by omega) (by omega) (by rw [← he, e2])
        rw [show ((m : Nat) : Int) - 1 = ((m + 1 : Nat) : Int) - 1 + -1 by omega] at h
        exact h

set_option maxRecDepth 100000 in
set_option maxHeartbeats 4000000 in
theorem c_X7_leftOf (E : jD) (fnd : Int) (ask : Int) (wd : Int) (mm : Int) (um : Int) (nd : Int) (m0 : Nat) (m1 : Nat) (m2 : Nat) (m3 : Nat) (m4 : Nat) (m5 : Nat) (m6 : Nat) (m7 : Nat) (m8 : Nat) (m9 : Nat) (m10 : Nat) (m11 : Nat) (m12 : Nat) (thr : Int) (pd : Int) (pal : Int) (it : Nat → Int32) (n : Nat) (i : Nat) (hi : i < 48) : MC E Y_X7_leftOf [.ref m0, .int (iI (i : Int))] [(m0, jO 7 [.int (iI thr), .int (iI ask), .int (iI fnd), .ref m1, .ref m2, .ref m3, .int (iI (n : Int)), .int (iI wd), .ref m4, .ref m5, .int (iI mm), .ref m6, .ref m7, .int (iI um), .ref m8, .ref m9, .ref m10, .ref m11, .int (iI pd), .int (iI nd), .ref m12, .int (iI pal)]), (m4, jA E 48 it)] (fun rr N0 => rr = some (.int (iI (lfE (tI it) i))) ∧ N0 = [(m0, jO 7 [.int (iI thr), .int (iI ask), .int (iI fnd), .ref m1, .ref m2, .ref m3, .int (iI (n : Int)), .int (iI wd), .ref m4, .ref m5, .int (iI mm), .ref m6, .ref m7, .int (iI um), .ref m8, .ref m9, .ref m10, .ref m11, .int (iI pd), .int (iI nd), .ref m12, .int (iI pal)]), (m4, jA E 48 it)]) := by
  refine MC.of (by decide) rfl rfl ?_
  refine j_iload_1 1 dX7_leftOf_0 rfl ?_
  refine j_iconst 2 dX7_leftOf_1 ?_
  refine j_isub 3 dX7_leftOf_2 ?_
  refine j_istore_2 4 (lv' := [(0, _), (1, _), (2, _)]) dX7_leftOf_3 rfl ⟨rfl, rfl⟩ ?_
  exact lp7_leftOf E fnd ask wd mm um nd m0 m1 m2 m3 m4 m5 m6 m7 m8 m9 m10 m11 m12 thr pd pal it n i hi (i + 1) i (by omega) (by omega) rfl

set_option maxRecDepth 100000 in
set_option maxHeartbeats 4000000 in
theorem lp7_rightOf (E : jD) (fnd : Int) (ask : Int) (wd : Int) (mm : Int) (um : Int) (nd : Int) (m0 : Nat) (m1 : Nat) (m2 : Nat) (m3 : Nat) (m4 : Nat) (m5 : Nat) (m6 : Nat) (m7 : Nat) (m8 : Nat) (m9 : Nat) (m10 : Nat) (m11 : Nat) (m12 : Nat) (thr : Int) (pd : Int) (pal : Int) (it : Nat → Int32) (n : Nat) (hn : n ≤ 48) (i : Nat) (hi : i < n) : ∀ (d : Nat) (k : Nat), n - k < d → (k ≤ n) → (rtF (tI it) ((tI it) i) (n - k) k = rtE (tI it) n i) → J E Y_X7_rightOf (jZm E Y_X7_rightOf (fun rr N0 => rr = some (.int (iI ((rtE (tI it) n i : Nat)))) ∧ N0 = [(m0, jO 7 [.int (iI thr), .int (iI ask), .int (iI fnd), .ref m1, .ref m2, .ref m3, .int (iI (n : Int)), .int (iI wd), .ref m4, .ref m5, .int (iI mm), .ref m6, .ref m7, .int (iI um), .ref m8, .ref m9, .ref m10, .ref m11, .int (iI pd), .int (iI nd), .ref m12, .int (iI pal)]), (m4, jA E 48 it)])) 0 0 4 [(0, .ref m0), (1, .int (iI (i : Int))), (2, .int (iI (k : Int)))] [] [(m0, jO 7 [.int (iI thr), .int (iI ask), .int (iI fnd), .ref m1, .ref m2, .ref m3, .int (iI (n : Int)), .int (iI wd), .ref m4, .ref m5, .int (iI mm), .ref m6, .ref m7, .int (iI um), .ref m8, .ref m9, .ref m10, .ref m11, .int (iI pd), .int (iI nd), .ref m12, .int (iI pal)]), (m4, jA E 48 it)] := by
  intro d
  induction d with
  | zero => intros; omega
  | succ d ih =>
    intro k hd hk he
    refine j_iload_2 5 dX7_rightOf_4 rfl ?_
    refine j_aload_0 6 dX7_rightOf_5 rfl ?_
    refine j_get 9 0 gf_X7_81 dX7_rightOf_6 rfl rfl ?_
    refine j_icmp_ge 33 12 dX7_rightOf_9 (by first | with_reducible exact iI_rng _ | with_reducible exact bI_r _ | exact ⟨by omega, by omega⟩) (by first | with_reducible exact iI_rng _ | with_reducible exact bI_r _ | exact ⟨by omega, by omega⟩) (fun q9 => ?_) (fun q9 => ?_)
    · have e : k = n := by omega
      subst e
      rw [Nat.sub_self] at he
      refine j_iload_2 34 dX7_rightOf_33 rfl ?_
      exact j_iret dX7_rightOf_34 rfl rfl ⟨congrArg (fun z => some (Value.int (iI z))) (by rw [← he]; first | rfl | rw [e2]), rfl⟩
    · obtain ⟨c, hc⟩ : ∃ c, n - k = c + 1 := ⟨n - k - 1, by omega⟩
      rw [hc] at he
      refine j_aload_0 13 dX7_rightOf_12 rfl ?_
      refine j_get 16 0 gf_X7_19 dX7_rightOf_13 rfl rfl ?_
      refine j_iload_2 17 dX7_rightOf_16 rfl ?_
      refine j_iald 18 1 _ dX7_rightOf_17 rfl rfl rfl (by omega) ?_
      refine j_aload_0 19 dX7_rightOf_18 rfl ?_
      refine j_get 22 0 gf_X7_19 dX7_rightOf_19 rfl rfl ?_
      refine j_iload_1 23 dX7_rightOf_22 rfl ?_
      refine j_iald 24 1 _ dX7_rightOf_23 rfl rfl rfl (by omega) ?_
      refine j_icmp_lt 33 27 dX7_rightOf_24 (by first | with_reducible exact iI_rng _ | with_reducible exact bI_r _ | exact ⟨by omega, by omega⟩) (by first | with_reducible exact iI_rng _ | with_reducible exact bI_r _ | exact ⟨by omega, by omega⟩) (fun q24 => ?_) (fun q24 => ?_)
      · have e2 : rtF (tI it) ((tI it) i) (c + 1) k = k := if_neg (by show ¬ (it i).toInt ≤ (it k).toInt; omega)
        refine j_iload_2 34 dX7_rightOf_33 rfl ?_
        exact j_iret dX7_rightOf_34 rfl rfl ⟨congrArg (fun z => some (Value.int (iI z))) (by rw [← he]; first | rfl | rw [e2]), rfl⟩
      · have e2 : rtF (tI it) ((tI it) i) (c + 1) k = rtF (tI it) ((tI it) i) c (k + 1) := if_pos (by show (it i).toInt ≤ (it k).toInt; omega)
        refine j_iinc 30 (lv' := [(0, _), (1, _), (2, _)]) dX7_rightOf_27 rfl rfl ⟨rfl, rfl⟩ ?_
        refine j_goto 4 dX7_rightOf_30 ?_
        exact ih (k + 1) (by omega) (by omega) (by rw [show n - (k + 1) = c by omega, ← e2, he])

set_option maxRecDepth 100000 in
set_option maxHeartbeats 4000000 in
theorem c_X7_rightOf (E : jD) (fnd : Int) (ask : Int) (wd : Int) (mm : Int) (um : Int) (nd : Int) (m0 : Nat) (m1 : Nat) (m2 : Nat) (m3 : Nat) (m4 : Nat) (m5 : Nat) (m6 : Nat) (m7 : Nat) (m8 : Nat) (m9 : Nat) (m10 : Nat) (m11 : Nat) (m12 : Nat) (thr : Int) (pd : Int) (pal : Int) (it : Nat → Int32) (n : Nat) (i : Nat) (hn : n ≤ 48) (hi : i < n) : MC E Y_X7_rightOf [.ref m0, .int (iI (i : Int))] [(m0, jO 7 [.int (iI thr), .int (iI ask), .int (iI fnd), .ref m1, .ref m2, .ref m3, .int (iI (n : Int)), .int (iI wd), .ref m4, .ref m5, .int (iI mm), .ref m6, .ref m7, .int (iI um), .ref m8, .ref m9, .ref m10, .ref m11, .int (iI pd), .int (iI nd), .ref m12, .int (iI pal)]), (m4, jA E 48 it)] (fun rr N0 => rr = some (.int (iI ((rtE (tI it) n i : Nat)))) ∧ N0 = [(m0, jO 7 [.int (iI thr), .int (iI ask), .int (iI fnd), .ref m1, .ref m2, .ref m3, .int (iI (n : Int)), .int (iI wd), .ref m4, .ref m5, .int (iI mm), .ref m6, .ref m7, .int (iI um), .ref m8, .ref m9, .ref m10, .ref m11, .int (iI pd), .int (iI nd), .ref m12, .int (iI pal)]), (m4, jA E 48 it)]) := by
  refine MC.of (by decide) rfl rfl ?_
  refine j_iload_1 1 dX7_rightOf_0 rfl ?_
  refine j_iconst 2 dX7_rightOf_1 ?_
  refine j_iadd 3 dX7_rightOf_2 ?_
  refine j_istore_2 4 (lv' := [(0, _), (1, _), (2, _)]) dX7_rightOf_3 rfl ⟨rfl, rfl⟩ ?_
  exact lp7_rightOf E fnd ask wd mm um nd m0 m1 m2 m3 m4 m5 m6 m7 m8 m9 m10 m11 m12 thr pd pal it n hn i hi (n + 1) (i + 1) (by omega) (by omega) rfl

set_option maxRecDepth 100000 in
set_option maxHeartbeats 4000000 in
theorem c_X7_ownsOf (E : jD) (fnd : Int) (ask : Int) (wd : Int) (mm : Int) (um : Int) (nd : Int) (m0 : Nat) (m1 : Nat) (m2 : Nat) (m3 : Nat) (m4 : Nat) (m5 : Nat) (m6 : Nat) (m7 : Nat) (m8 : Nat) (m9 : Nat) (m10 : Nat) (m11 : Nat) (m12 : Nat) (thr : Int) (pd : Int) (pal : Int) (it : Nat → Int32) (n : Nat) (i : Nat) (hn : n ≤ 48) (hi : i < n) : MC E Y_X7_ownsOf [.ref m0, .int (iI (i : Int))] [(m0, jO 7 [.int (iI thr), .int (iI ask), .int (iI fnd), .ref m1, .ref m2, .ref m3, .int (iI (n : Int)), .int (iI wd), .ref m4, .ref m5, .int (iI mm), .ref m6, .ref m7, .int (iI um), .ref m8, .ref m9, .ref m10, .ref m11, .int (iI pd), .int (iI nd), .ref m12, .int (iI pal)]), (m4, jA E 48 it)] (fun rr N0 => rr = some (.int (iI (ownF (tI it) n i))) ∧ N0 = [(m0, jO 7 [.int (iI thr), .int (iI ask), .int (iI fnd), .ref m1, .ref m2, .ref m3, .int (iI (n : Int)), .int (iI wd), .ref m4, .ref m5, .int (iI mm), .ref m6, .ref m7, .int (iI um), .ref m8, .ref m9, .ref m10, .ref m11, .int (iI pd), .int (iI nd), .ref m12, .int (iI pal)]), (m4, jA E 48 it)]) := by
  refine MC.of (by decide) rfl rfl ?_
  refine j_iload_1 1 dX7_ownsOf_0 rfl ?_
  refine j_aload_0 2 dX7_ownsOf_1 rfl ?_
  refine j_iload_1 3 dX7_ownsOf_2 rfl ?_
  refine j_callVi 6 Y_X7_leftOf [0, 1] [_] (c_X7_leftOf E _ _ _ _ _ _ _ _ _ _ _ _ _ _ _ _ _ _ _ _ _ _ _ _ _ (by omega)) m_X7_leftOf wml_X7_119 dX7_ownsOf_3 0 rfl rfl rfl rfl rfl rfl rfl rfl rfl rfl ?_
  refine j_isub 7 dX7_ownsOf_6 ?_
  refine j_aload_0 8 dX7_ownsOf_7 rfl ?_
  refine j_iload_1 9 dX7_ownsOf_8 rfl ?_
  refine j_callVi 12 Y_X7_rightOf [0, 1] [_] (c_X7_rightOf E _ _ _ _ _ _ _ _ _ _ _ _ _ _ _ _ _ _ _ _ _ _ _ _ _ hn hi) m_X7_rightOf wml_X7_122 dX7_ownsOf_9 0 rfl rfl rfl rfl rfl rfl rfl rfl rfl rfl ?_
  refine j_iload_1 13 dX7_ownsOf_12 rfl ?_
  refine j_isub 14 dX7_ownsOf_13 ?_
  refine j_imul 15 dX7_ownsOf_14 ?_
  exact j_iret dX7_ownsOf_15 rfl rfl ⟨rfl, rfl⟩

set_option maxRecDepth 100000 in
set_option maxHeartbeats 4000000 in
theorem lp7_depthOf (E : jD) (fnd : Int) (ask : Int) (wd : Int) (mm : Int) (um : Int) (nd : Int) (m0 : Nat) (m1 : Nat) (m2 : Nat) (m3 : Nat) (m4 : Nat) (m5 : Nat) (m6 : Nat) (m7 : Nat) (m8 : Nat) (m9 : Nat) (m10 : Nat) (m11 : Nat) (m12 : Nat) (thr : Int) (pd : Int) (it : Nat → Int32) (n : Nat) (hn : n ≤ 48) (i : Nat) (hi : i < n) : ∀ (d : Nat) (d0 : Nat) (a b k : Nat) (q : Int), b - a < d → (a ≤ i ∧ i ≤ b ∧ b < n) → (b - a < d0) → (dmF (tI it) i d0 a b (k, q) = (dmF (tI it) i n 0 (n - 1) (0, -9))) → J E Y_X7_depthOf (jZm E Y_X7_depthOf (fun rr N0 => rr = some (.int (iI (((dmF (tI it) i n 0 (n - 1) (0, -9)).1 : Nat)))) ∧ N0 = [(m0, jO 7 [.int (iI thr), .int (iI ask), .int (iI fnd), .ref m1, .ref m2, .ref m3, .int (iI (n : Int)), .int (iI wd), .ref m4, .ref m5, .int (iI mm), .ref m6, .ref m7, .int (iI um), .ref m8, .ref m9, .ref m10, .ref m11, .int (iI pd), .int (iI nd), .ref m12, .int (iI (dmF (tI it) i n 0 (n - 1) (0, -9)).2)]), (m4, jA E 48 it)])) 0 0 26 [(0, .ref m0), (1, .int (iI (i : Int))), (2, .int (iI (a : Int))), (3, .int (iI (b : Int))), (4, .int (iI (k : Int))), (5, .int (iI ((lsF (tI it) a (b - a) : Nat) : Int)))] [] [(m0, jO 7 [.int (iI thr), .int (iI ask), .int (iI fnd), .ref m1, .ref m2, .ref m3, .int (iI (n : Int)), .int (iI wd), .ref m4, .ref m5, .int (iI mm), .ref m6, .ref m7, .int (iI um), .ref m8, .ref m9, .ref m10, .ref m11, .int (iI pd), .int (iI nd), .ref m12, .int (iI q)]), (m4, jA E 48 it)] := by
  intro d
  induction d with
  | zero => intros; omega
  | succ d ih =>
    intro d0 a b k q hd hab hd0 he
    have hl0 := lsF_in (tI it) a (b - a)
    obtain ⟨d1, rfl⟩ : ∃ d1, d0 = d1 + 1 := ⟨d0 - 1, by omega⟩
    refine j_iload 28 dX7_depthOf_26 rfl ?_
    refine j_iload_1 29 dX7_depthOf_28 rfl ?_
    refine j_icmp_eq 71 32 dX7_depthOf_29 (by first | with_reducible exact iI_rng _ | with_reducible exact bI_r _ | exact ⟨by omega, by omega⟩) (by first | with_reducible exact iI_rng _ | with_reducible exact bI_r _ | exact ⟨by omega, by omega⟩) (fun q29 => ?_) (fun q29 => ?_)
    · have e2 : dmF (tI it) i (d1 + 1) a b (k, q) = (k, q) := if_pos (by omega)
      rw [e2] at he
      refine j_iload 73 dX7_depthOf_71 rfl ?_
      exact j_iret dX7_depthOf_73 rfl rfl ⟨by rw [← he], by rw [← he]⟩
    · refine j_aload_0 33 dX7_depthOf_32 rfl ?_
      refine j_iload 35 dX7_depthOf_33 rfl ?_
      refine j_put 38 0 pf_X7_128 dX7_depthOf_35 rfl ⟨rfl, rfl, rfl⟩ ?_
      refine j_iinc 41 (lv' := [(0, _), (1, _), (2, _), (3, _), (4, _), (5, _)]) dX7_depthOf_38 rfl rfl ⟨rfl, rfl⟩ ?_
      refine j_iload_1 42 dX7_depthOf_41 rfl ?_
      refine j_iload 44 dX7_depthOf_42 rfl ?_
      refine j_icmp_ge 55 47 dX7_depthOf_44 (by first | with_reducible exact iI_rng _ | with_reducible exact bI_r _ | exact ⟨by omega, by omega⟩) (by first | with_reducible exact iI_rng _ | with_reducible exact bI_r _ | exact ⟨by omega, by omega⟩) (fun q44 => ?_) (fun q44 => ?_)
      · have e2 : dmF (tI it) i (d1 + 1) a b (k, q) = dmF (tI it) i d1 (lsF (tI it) a (b - a) + 1) b (k + 1, (lsF (tI it) a (b - a) : Int)) := by
          show (if _ then _ else _) = _
          rw [if_neg (by omega), if_neg (by omega)]
        rw [e2] at he
        refine j_iload 57 dX7_depthOf_55 rfl ?_
        refine j_iconst 58 dX7_depthOf_57 ?_
        refine j_iadd 59 dX7_depthOf_58 ?_
        refine j_top ((lsF (tI it) a (b - a) + 1 : Nat) : Int) (congrArg iI (by omega)) ?_
        refine j_istore_2 60 (lv' := [(0, _), (1, _), (2, _), (3, _), (4, _), (5, _)]) dX7_depthOf_59 rfl ⟨rfl, rfl⟩ ?_
        refine j_aload_0 61 dX7_depthOf_60 rfl ?_
        refine j_iload_2 62 dX7_depthOf_61 rfl ?_
        refine j_iload_3 63 dX7_depthOf_62 rfl ?_
        refine j_callVi 66 Y_X7_leastOf [0, 1] [_, _] (c_X7_leastOf E _ _ _ _ _ _ _ _ _ _ _ _ _ _ _ _ _ _ _ _ _ _ _ _ _ _ (by omega) (by omega)) m_X7_leastOf wml_X7_116 dX7_depthOf_63 0 rfl rfl rfl rfl rfl rfl rfl rfl rfl rfl ?_
        refine j_istore 68 (lv' := [(0, _), (1, _), (2, _), (3, _), (4, _), (5, _)]) dX7_depthOf_66 rfl ⟨rfl, rfl⟩ ?_
        refine j_goto 26 dX7_depthOf_68 ?_
        exact ih d1 _ _ (k + 1) _ (by omega) (by omega) (by omega) he
      · have e2 : dmF (tI it) i (d1 + 1) a b (k, q) = dmF (tI it) i d1 a (lsF (tI it) a (b - a) - 1) (k + 1, (lsF (tI it) a (b - a) : Int)) := by
          show (if _ then _ else _) = _
          rw [if_neg (by omega), if_pos (by omega)]
        rw [e2] at he
        refine j_iload 49 dX7_depthOf_47 rfl ?_
        refine j_iconst 50 dX7_depthOf_49 ?_
        refine j_isub 51 dX7_depthOf_50 ?_
        refine j_top ((lsF (tI it) a (b - a) - 1 : Nat) : Int) (congrArg iI (by omega)) ?_
        refine j_istore_3 52 (lv' := [(0, _), (1, _), (2, _), (3, _), (4, _), (5, _)]) dX7_depthOf_51 rfl ⟨rfl, rfl⟩ ?_
        refine j_goto 60 dX7_depthOf_52 ?_
        refine j_aload_0 61 dX7_depthOf_60 rfl ?_
        refine j_iload_2 62 dX7_depthOf_61 rfl ?_
        refine j_iload_3 63 dX7_depthOf_62 rfl ?_
        refine j_callVi 66 Y_X7_leastOf [0, 1] [_, _] (c_X7_leastOf E _ _ _ _ _ _ _ _ _ _ _ _ _ _ _ _ _ _ _ _ _ _ _ _ _ _ (by omega) (by omega)) m_X7_leastOf wml_X7_116 dX7_depthOf_63 0 rfl rfl rfl rfl rfl rfl rfl rfl rfl rfl ?_
        refine j_istore 68 (lv' := [(0, _), (1, _), (2, _), (3, _), (4, _), (5, _)]) dX7_depthOf_66 rfl ⟨rfl, rfl⟩ ?_
        refine j_goto 26 dX7_depthOf_68 ?_
        exact ih d1 _ _ (k + 1) _ (by omega) (by omega) (by omega) he

set_option maxRecDepth 100000 in
set_option maxHeartbeats 4000000 in
theorem c_X7_depthOf (E : jD) (fnd : Int) (ask : Int) (wd : Int) (mm : Int) (um : Int) (nd : Int) (m0 : Nat) (m1 : Nat) (m2 : Nat) (m3 : Nat) (m4 : Nat) (m5 : Nat) (m6 : Nat) (m7 : Nat) (m8 : Nat) (m9 : Nat) (m10 : Nat) (m11 : Nat) (m12 : Nat) (thr : Int) (pd : Int) (pal : Int) (it : Nat → Int32) (n : Nat) (i : Nat) (hn : n ≤ 48) (hi : i < n) : MC E Y_X7_depthOf [.ref m0, .int (iI (i : Int))] [(m0, jO 7 [.int (iI thr), .int (iI ask), .int (iI fnd), .ref m1, .ref m2, .ref m3, .int (iI (n : Int)), .int (iI wd), .ref m4, .ref m5, .int (iI mm), .ref m6, .ref m7, .int (iI um), .ref m8, .ref m9, .ref m10, .ref m11, .int (iI pd), .int (iI nd), .ref m12, .int (iI pal)]), (m4, jA E 48 it)] (fun rr N0 => rr = some (.int (iI (((dmF (tI it) i n 0 (n - 1) (0, -9)).1 : Nat)))) ∧ N0 = [(m0, jO 7 [.int (iI thr), .int (iI ask), .int (iI fnd), .ref m1, .ref m2, .ref m3, .int (iI (n : Int)), .int (iI wd), .ref m4, .ref m5, .int (iI mm), .ref m6, .ref m7, .int (iI um), .ref m8, .ref m9, .ref m10, .ref m11, .int (iI pd), .int (iI nd), .ref m12, .int (iI (dmF (tI it) i n 0 (n - 1) (0, -9)).2)]), (m4, jA E 48 it)]) := by
  refine MC.of (by decide) rfl rfl ?_
  refine j_iconst 1 dX7_depthOf_0 ?_
  refine j_istore_2 2 (lv' := [(0, _), (1, _), (2, _)]) dX7_depthOf_1 rfl ⟨rfl, rfl⟩ ?_
  refine j_aload_0 3 dX7_depthOf_2 rfl ?_
  refine j_get 6 0 gf_X7_81 dX7_depthOf_3 rfl rfl ?_
  refine j_iconst 7 dX7_depthOf_6 ?_
  refine j_isub 8 dX7_depthOf_7 ?_
  refine j_top ((n - 1 : Nat) : Int) (congrArg iI (by omega)) ?_
  refine j_istore_3 9 (lv' := [(0, _), (1, _), (2, _), (3, _)]) dX7_depthOf_8 rfl ⟨rfl, rfl⟩ ?_
  refine j_iconst 10 dX7_depthOf_9 ?_
  refine j_istore 12 (lv' := [(0, _), (1, _), (2, _), (3, _), (4, _)]) dX7_depthOf_10 rfl ⟨rfl, rfl⟩ ?_
  refine j_aload_0 13 dX7_depthOf_12 rfl ?_
  refine j_bipush 15 dX7_depthOf_13 (by decide +kernel) ?_
  refine j_put 18 0 pf_X7_128 dX7_depthOf_15 rfl ⟨rfl, rfl, rfl⟩ ?_
  refine j_aload_0 19 dX7_depthOf_18 rfl ?_
  refine j_iload_2 20 dX7_depthOf_19 rfl ?_
  refine j_iload_3 21 dX7_depthOf_20 rfl ?_
  refine j_callVi 24 Y_X7_leastOf [0, 1] [_, _] (c_X7_leastOf E _ _ _ _ _ _ _ _ _ _ _ _ _ _ _ _ _ _ _ _ _ _ _ _ 0 _ (by omega) (by omega)) m_X7_leastOf wml_X7_116 dX7_depthOf_21 0 rfl rfl rfl rfl rfl rfl rfl rfl rfl rfl ?_
  refine j_istore 26 (lv' := [(0, _), (1, _), (2, _), (3, _), (4, _), (5, _)]) dX7_depthOf_24 rfl ⟨rfl, rfl⟩ ?_
  exact lp7_depthOf E fnd ask wd mm um nd m0 m1 m2 m3 m4 m5 m6 m7 m8 m9 m10 m11 m12 thr pd it n hn i hi n n 0 (n - 1) 0 _ (by omega) (by omega) (by omega) rfl
