set_option maxRecDepth 100000 in
set_option maxHeartbeats 4000000 in
theorem c_X6_isNoRow (E : jD) (r : Int) (hr : jr r) : MC E Y_X6_isNoRow [.int (iI r)] [] (fun rr N0 => rr = some (.int (iI (bI (r < 0 ∨ 4 ≤ r)))) ∧ N0 = []) := by
  refine MC.of (by decide) rfl rfl ?_
  refine j_iload_0 1 dX6_isNoRow_0 rfl ?_
  refine j_if_lt 9 4 dX6_isNoRow_1 (by first | with_reducible exact iI_rng _ | with_reducible exact bI_r _ | exact ⟨by omega, by omega⟩) (fun h1 => ?_) (fun h1 => ?_)
  · refine j_iconst 10 dX6_isNoRow_9 ?_
    refine j_goto 14 dX6_isNoRow_10 ?_
    exact j_zret (by first | exact bI_n _ | decide +kernel) dX6_isNoRow_14 rfl rfl ⟨congrArg (fun z => some (Value.int (iI z))) (by first | exact (bI_t (by omega)).symm | exact (bI_f (by omega)).symm), rfl⟩
  · refine j_iload_0 5 dX6_isNoRow_4 rfl ?_
    refine j_iconst 6 dX6_isNoRow_5 ?_
    refine j_icmp_lt 13 9 dX6_isNoRow_6 (by first | with_reducible exact iI_rng _ | with_reducible exact bI_r _ | exact ⟨by omega, by omega⟩) (by first | with_reducible exact iI_rng _ | with_reducible exact bI_r _ | exact ⟨by omega, by omega⟩) (fun h6 => ?_) (fun h6 => ?_)
    · refine j_iconst 14 dX6_isNoRow_13 ?_
      exact j_zret (by first | exact bI_n _ | decide +kernel) dX6_isNoRow_14 rfl rfl ⟨congrArg (fun z => some (Value.int (iI z))) (by first | exact (bI_t (by omega)).symm | exact (bI_f (by omega)).symm), rfl⟩
    · refine j_iconst 10 dX6_isNoRow_9 ?_
      refine j_goto 14 dX6_isNoRow_10 ?_
      exact j_zret (by first | exact bI_n _ | decide +kernel) dX6_isNoRow_14 rfl rfl ⟨congrArg (fun z => some (Value.int (iI z))) (by first | exact (bI_t (by omega)).symm | exact (bI_f (by omega)).symm), rfl⟩

set_option maxRecDepth 100000 in
set_option maxHeartbeats 4000000 in
theorem c_X6_isNoImage (E : jD) (r : Int) (hr : jr r) : MC E Y_X6_isNoImage [.int (iI r)] [] (fun rr N0 => rr = some (.int (iI (bI (r < 0 ∨ 2 ≤ r)))) ∧ N0 = []) := by
  refine MC.of (by decide) rfl rfl ?_
  refine j_iload_0 1 dX6_isNoImage_0 rfl ?_
  refine j_if_lt 9 4 dX6_isNoImage_1 (by first | with_reducible exact iI_rng _ | with_reducible exact bI_r _ | exact ⟨by omega, by omega⟩) (fun h1 => ?_) (fun h1 => ?_)
  · refine j_iconst 10 dX6_isNoImage_9 ?_
    refine j_goto 14 dX6_isNoImage_10 ?_
    exact j_zret (by first | exact bI_n _ | decide +kernel) dX6_isNoImage_14 rfl rfl ⟨congrArg (fun z => some (Value.int (iI z))) (by first | exact (bI_t (by omega)).symm | exact (bI_f (by omega)).symm), rfl⟩
  · refine j_iload_0 5 dX6_isNoImage_4 rfl ?_
    refine j_iconst 6 dX6_isNoImage_5 ?_
    refine j_icmp_lt 13 9 dX6_isNoImage_6 (by first | with_reducible exact iI_rng _ | with_reducible exact bI_r _ | exact ⟨by omega, by omega⟩) (by first | with_reducible exact iI_rng _ | with_reducible exact bI_r _ | exact ⟨by omega, by omega⟩) (fun h6 => ?_) (fun h6 => ?_)
    · refine j_iconst 14 dX6_isNoImage_13 ?_
      exact j_zret (by first | exact bI_n _ | decide +kernel) dX6_isNoImage_14 rfl rfl ⟨congrArg (fun z => some (Value.int (iI z))) (by first | exact (bI_t (by omega)).symm | exact (bI_f (by omega)).symm), rfl⟩
    · refine j_iconst 10 dX6_isNoImage_9 ?_
      refine j_goto 14 dX6_isNoImage_10 ?_
      exact j_zret (by first | exact bI_n _ | decide +kernel) dX6_isNoImage_14 rfl rfl ⟨congrArg (fun z => some (Value.int (iI z))) (by first | exact (bI_t (by omega)).symm | exact (bI_f (by omega)).symm), rfl⟩

set_option maxRecDepth 100000 in
set_option maxHeartbeats 4000000 in
theorem c_X6_refuse (E : jD) (h0 : Nat) (h1 : Nat) (x0 : Nat) (g0 : Nat) (h10 : Nat) (y0 : Nat) (h42 : Nat) (fnd : Int) (ask : Int) (fm : Nat → Int) (w : Nat) (hw : w < 5) : MC E Y_X6_refuse [.ref h0, .int (iI (w : Int))] [(h0, jO 6 [.ref h1, .ref x0, .ref g0, .ref h10, .ref y0, .ref h42, .int (iI fnd), .int (iI ask)]), (h42, jA E 5 (aI fm))] (fun rr N0 => rr = some (.int (iI (-3))) ∧ N0 = [(h0, jO 6 [.ref h1, .ref x0, .ref g0, .ref h10, .ref y0, .ref h42, .int (iI (w : Int)), .int (iI ask)]), (h42, jA E 5 (aI (inF fm w)))]) := by
  refine MC.of (by decide) rfl rfl ?_
  refine j_aload_0 1 dX6_refuse_0 rfl ?_
  refine j_iload_1 2 dX6_refuse_1 rfl ?_
  refine j_put 5 0 pf_X6_48 dX6_refuse_2 rfl ⟨rfl, rfl, rfl⟩ ?_
  refine j_aload_0 6 dX6_refuse_5 rfl ?_
  refine j_get 9 0 gf_X6_44 dX6_refuse_6 rfl rfl ?_
  refine j_iload_1 10 dX6_refuse_9 rfl ?_
  refine j_dup2 11 dX6_refuse_10 rfl rfl ?_
  refine j_ialdw 12 1 _ (fm w) dX6_refuse_11 rfl rfl rfl (by omega) rfl ?_
  refine j_iconst 13 dX6_refuse_12 ?_
  refine j_iadd 14 dX6_refuse_13 ?_
  refine j_iast 15 1 _ dX6_refuse_14 rfl rfl rfl (by omega) ?_
  rw [aI_upd]
  refine j_bipush 17 dX6_refuse_15 (by decide +kernel) ?_
  exact j_iret dX6_refuse_17 rfl rfl ⟨rfl, rfl⟩

set_option maxRecDepth 100000 in
set_option maxHeartbeats 4000000 in
theorem c_X6_refusalOfPlace_bad (E : jD) (h0 : Nat) (h1 : Nat) (x0 : Nat) (g0 : Nat) (h10 : Nat) (y0 : Nat) (h42 : Nat) (fnd : Int) (ask : Int) (r i : Int) (hr : jr r) (hb : r < 0 ∨ 4 ≤ r) : MC E Y_X6_refusalOfPlace [.ref h0, .int (iI r), .int (iI i)] [(h0, jO 6 [.ref h1, .ref x0, .ref g0, .ref h10, .ref y0, .ref h42, .int (iI fnd), .int (iI ask)])] (fun rr N0 => rr = some (.int (iI (-1))) ∧ N0 = [(h0, jO 6 [.ref h1, .ref x0, .ref g0, .ref h10, .ref y0, .ref h42, .int (iI fnd), .int (iI ask)])]) := by
  refine MC.of (by decide) rfl rfl ?_
  refine j_iload_1 1 dX6_refusalOfPlace_0 rfl ?_
  refine j_callSi 4 Y_X6_isNoRow [] [_] (c_X6_isNoRow E _ (by first | with_reducible assumption | exact ⟨by omega, by omega⟩)) m_X6_isNoRow wml_X6_55 dX6_refusalOfPlace_1 rfl rfl rfl rfl rfl rfl rfl ?_
  refine j_bif_eq 9 7 dX6_refusalOfPlace_4 (fun h4 => ?_) (fun h4 => ?_)
  · omega
  · refine j_iconst 8 dX6_refusalOfPlace_7 ?_
    exact j_iret dX6_refusalOfPlace_8 rfl rfl ⟨rfl, rfl⟩

set_option maxRecDepth 100000 in
set_option maxHeartbeats 4000000 in
theorem c_X6_refusalOfPlace_no (E : jD) (h0 : Nat) (h1 : Nat) (x0 : Nat) (g0 : Nat) (h10 : Nat) (y0 : Nat) (h42 : Nat) (b : Nat) (b1 : Nat) (fnd : Int) (ask : Int) (N : Int) (fm : Nat → Int) (ra : Nat → Option Nat) (r : Nat) (i c : Int) (hr4 : r < 4) (hra : ra r = some b) (hN : -1 ≤ N ∧ N ≤ 48) (hi : jr i) (hc : (N < 0 ∧ c = 1) ∨ (0 ≤ N ∧ (i < 0 ∨ N ≤ i) ∧ c = 2)) : MC E Y_X6_refusalOfPlace [.ref h0, .int (iI (r : Int)), .int (iI i)] [(h0, jO 6 [.ref h1, .ref x0, .ref g0, .ref h10, .ref y0, .ref h42, .int (iI fnd), .int (iI ask)]), (h42, jA E 5 (aI fm)), (h1, jR E 2 4 ra), (b, jO 4 [.ref b1, .int (iI N)])] (fun rr N0 => rr = some (.int (iI (rz c))) ∧ N0 = [(h0, jO 6 [.ref h1, .ref x0, .ref g0, .ref h10, .ref y0, .ref h42, .int (iI (rf c fnd)), .int (iI ask)]), (h42, jA E 5 (aI (rm c fm))), (h1, jR E 2 4 ra), (b, jO 4 [.ref b1, .int (iI N)])]) := by
  refine MC.of (by decide) rfl rfl ?_
  refine j_iload_1 1 dX6_refusalOfPlace_0 rfl ?_
  refine j_callSi 4 Y_X6_isNoRow [] [_] (c_X6_isNoRow E _ (by first | with_reducible assumption | exact ⟨by omega, by omega⟩)) m_X6_isNoRow wml_X6_55 dX6_refusalOfPlace_1 rfl rfl rfl rfl rfl rfl rfl ?_
  refine j_bif_eq 9 7 dX6_refusalOfPlace_4 (fun h4 => ?_) (fun h4 => ?_)
  · refine j_aload_0 10 dX6_refusalOfPlace_9 rfl ?_
    refine j_get 13 0 gf_X6_11 dX6_refusalOfPlace_10 rfl rfl ?_
    refine j_iload_1 14 dX6_refusalOfPlace_13 rfl ?_
    refine j_aald2 15 2 _ b dX6_refusalOfPlace_14 rfl rfl rfl (by omega) hra ?_
    refine j_callVi 18 Y_X4_isMissing [3] [] (c_X4_isMissing E _ _ _ (by exact ⟨by omega, by omega⟩)) m_X4_isMissing wml_X6_74 dX6_refusalOfPlace_15 0 rfl rfl rfl rfl rfl rfl rfl rfl rfl rfl ?_
    refine j_bif_eq 27 21 dX6_refusalOfPlace_18 (fun h18 => ?_) (fun h18 => ?_)
    · refine j_aload_0 28 dX6_refusalOfPlace_27 rfl ?_
      refine j_get 31 0 gf_X6_11 dX6_refusalOfPlace_28 rfl rfl ?_
      refine j_iload_1 32 dX6_refusalOfPlace_31 rfl ?_
      refine j_aald2 33 2 _ b dX6_refusalOfPlace_32 rfl rfl rfl (by omega) hra ?_
      refine j_iload_2 34 dX6_refusalOfPlace_33 rfl ?_
      refine j_callVi 37 Y_X4_lacks [3] [_] (c_X4_lacks E _ _ _ _ (by exact ⟨by omega, by omega⟩) (by first | with_reducible assumption | exact ⟨by omega, by omega⟩)) m_X4_lacks wml_X6_245 dX6_refusalOfPlace_34 0 rfl rfl rfl rfl rfl rfl rfl rfl rfl rfl ?_
      refine j_bif_eq 48 40 dX6_refusalOfPlace_37 (fun h37 => ?_) (fun h37 => ?_)
      · omega
      · refine j_aload_0 41 dX6_refusalOfPlace_40 rfl ?_
        refine j_iconst 42 dX6_refusalOfPlace_41 ?_
        refine j_callV 45 Y_X6_refuse [0, 1] [_] (c_X6_refuse E _ _ _ _ _ _ _ _ _ _ 2 (by decide)) m_X6_refuse wml_X6_59 dX6_refusalOfPlace_42 0 rfl rfl rfl rfl rfl rfl rfl rfl rfl (fun r N h => by obtain ⟨rfl, rfl⟩ := h; rfl) (fun r N h => ?_)
        obtain ⟨rfl, rfl⟩ := h
        refine j_goto 49 dX6_refusalOfPlace_45 ?_
        obtain rfl : c = 2 := by omega
        exact j_iret dX6_refusalOfPlace_49 rfl rfl ⟨rfl, rfl⟩
    · refine j_aload_0 22 dX6_refusalOfPlace_21 rfl ?_
      refine j_iconst 23 dX6_refusalOfPlace_22 ?_
      refine j_callV 26 Y_X6_refuse [0, 1] [_] (c_X6_refuse E _ _ _ _ _ _ _ _ _ _ 1 (by decide)) m_X6_refuse wml_X6_59 dX6_refusalOfPlace_23 0 rfl rfl rfl rfl rfl rfl rfl rfl rfl (fun r N h => by obtain ⟨rfl, rfl⟩ := h; rfl) (fun r N h => ?_)
      obtain ⟨rfl, rfl⟩ := h
      obtain rfl : c = 1 := by omega
      exact j_iret dX6_refusalOfPlace_26 rfl rfl ⟨rfl, rfl⟩
  · omega

set_option maxRecDepth 100000 in
set_option maxHeartbeats 4000000 in
theorem c_X6_refusalOfPlace_ok (E : jD) (h0 : Nat) (h1 : Nat) (x0 : Nat) (g0 : Nat) (h10 : Nat) (y0 : Nat) (h42 : Nat) (b : Nat) (b1 : Nat) (fnd : Int) (ask : Int) (N : Int) (fm : Nat → Int) (ra : Nat → Option Nat) (r i : Nat) (hr4 : r < 4) (hra : ra r = some b) (hN : -1 ≤ N ∧ N ≤ 48) (hi : (i : Int) < N) : MC E Y_X6_refusalOfPlace [.ref h0, .int (iI (r : Int)), .int (iI (i : Int))] [(h0, jO 6 [.ref h1, .ref x0, .ref g0, .ref h10, .ref y0, .ref h42, .int (iI fnd), .int (iI ask)]), (h42, jA E 5 (aI fm)), (h1, jR E 2 4 ra), (b, jO 4 [.ref b1, .int (iI N)])] (fun rr N0 => rr = some (.int (iI (0))) ∧ N0 = [(h0, jO 6 [.ref h1, .ref x0, .ref g0, .ref h10, .ref y0, .ref h42, .int (iI fnd), .int (iI ask)]), (h42, jA E 5 (aI fm)), (h1, jR E 2 4 ra), (b, jO 4 [.ref b1, .int (iI N)])]) := by
  refine MC.of (by decide) rfl rfl ?_
  refine j_iload_1 1 dX6_refusalOfPlace_0 rfl ?_
  refine j_callSi 4 Y_X6_isNoRow [] [_] (c_X6_isNoRow E _ (by first | with_reducible assumption | exact ⟨by omega, by omega⟩)) m_X6_isNoRow wml_X6_55 dX6_refusalOfPlace_1 rfl rfl rfl rfl rfl rfl rfl ?_
  refine j_bif_eq 9 7 dX6_refusalOfPlace_4 (fun h4 => ?_) (fun h4 => ?_)
  · refine j_aload_0 10 dX6_refusalOfPlace_9 rfl ?_
    refine j_get 13 0 gf_X6_11 dX6_refusalOfPlace_10 rfl rfl ?_
    refine j_iload_1 14 dX6_refusalOfPlace_13 rfl ?_
    refine j_aald2 15 2 _ b dX6_refusalOfPlace_14 rfl rfl rfl (by omega) hra ?_
    refine j_callVi 18 Y_X4_isMissing [3] [] (c_X4_isMissing E _ _ _ (by exact ⟨by omega, by omega⟩)) m_X4_isMissing wml_X6_74 dX6_refusalOfPlace_15 0 rfl rfl rfl rfl rfl rfl rfl rfl rfl rfl ?_
    refine j_bif_eq 27 21 dX6_refusalOfPlace_18 (fun h18 => ?_) (fun h18 => ?_)
    · refine j_aload_0 28 dX6_refusalOfPlace_27 rfl ?_
      refine j_get 31 0 gf_X6_11 dX6_refusalOfPlace_28 rfl rfl ?_
      refine j_iload_1 32 dX6_refusalOfPlace_31 rfl ?_
      refine j_aald2 33 2 _ b dX6_refusalOfPlace_32 rfl rfl rfl (by omega) hra ?_
      refine j_iload_2 34 dX6_refusalOfPlace_33 rfl ?_
      refine j_callVi 37 Y_X4_lacks [3] [_] (c_X4_lacks E _ _ _ _ (by exact ⟨by omega, by omega⟩) (by first | with_reducible assumption | exact ⟨by omega, by omega⟩)) m_X4_lacks wml_X6_245 dX6_refusalOfPlace_34 0 rfl rfl rfl rfl rfl rfl rfl rfl rfl rfl ?_
      refine j_bif_eq 48 40 dX6_refusalOfPlace_37 (fun h37 => ?_) (fun h37 => ?_)
      · refine j_iconst 49 dX6_refusalOfPlace_48 ?_
        exact j_iret dX6_refusalOfPlace_49 rfl rfl ⟨rfl, rfl⟩
      · omega
    · omega
  · omega

set_option maxRecDepth 100000 in
set_option maxHeartbeats 4000000 in
theorem c_X6_refusalOfRun_no (E : jD) (h0 : Nat) (h1 : Nat) (x0 : Nat) (g0 : Nat) (h10 : Nat) (y0 : Nat) (h42 : Nat) (x1 : Nat) (x2 : Nat) (x3 : Nat) (x4 : Nat) (x6 : Nat) (fnd : Int) (ask : Int) (wd : Int) (bl : Int) (n : Int) (fm : Nat → Int) (i j c : Int) (hn : -1 ≤ n ∧ n ≤ 48) (hi : jr i) (hj : jr j) (hc : (n < 0 ∧ c = -2) ∨ (0 ≤ n ∧ (i < 0 ∨ n ≤ i ∨ j < i ∨ n ≤ j) ∧ c = 2)) : MC E Y_X6_refusalOfRun [.ref h0, .int (iI i), .int (iI j)] [(h0, jO 6 [.ref h1, .ref x0, .ref g0, .ref h10, .ref y0, .ref h42, .int (iI fnd), .int (iI ask)]), (h42, jA E 5 (aI fm)), (x0, jO 3 [.ref x1, .ref x3, .ref x4, .ref x6, .int (iI wd), .int (iI bl)]), (x1, jO 4 [.ref x2, .int (iI n)])] (fun rr N0 => rr = some (.int (iI (rz c))) ∧ N0 = [(h0, jO 6 [.ref h1, .ref x0, .ref g0, .ref h10, .ref y0, .ref h42, .int (iI (rf c fnd)), .int (iI ask)]), (h42, jA E 5 (aI (rm c fm))), (x0, jO 3 [.ref x1, .ref x3, .ref x4, .ref x6, .int (iI wd), .int (iI bl)]), (x1, jO 4 [.ref x2, .int (iI n)])]) := by
  refine MC.of (by decide) rfl rfl ?_
  refine j_aload_0 1 dX6_refusalOfRun_0 rfl ?_
  refine j_get 4 0 gf_X6_26 dX6_refusalOfRun_1 rfl rfl ?_
  refine j_callVi 7 Y_X3_isNone [2, 3] [] (c_X3_isNone E _ _ _ _ _ _ _ _ _ (by exact ⟨by omega, by omega⟩)) m_X3_isNone wml_X6_125 dX6_refusalOfRun_4 0 rfl rfl rfl rfl rfl rfl rfl rfl rfl rfl ?_
  refine j_bif_eq 13 10 dX6_refusalOfRun_7 (fun h7 => ?_) (fun h7 => ?_)
  · refine j_aload_0 14 dX6_refusalOfRun_13 rfl ?_
    refine j_get 17 0 gf_X6_26 dX6_refusalOfRun_14 rfl rfl ?_
    refine j_get 20 2 gf_X6_104 dX6_refusalOfRun_17 rfl rfl ?_
    refine j_iload_1 21 dX6_refusalOfRun_20 rfl ?_
    refine j_callVi 24 Y_X4_lacks [3] [_] (c_X4_lacks E _ _ _ _ (by exact ⟨by omega, by omega⟩) (by first | with_reducible assumption | exact ⟨by omega, by omega⟩)) m_X4_lacks wml_X6_245 dX6_refusalOfRun_21 0 rfl rfl rfl rfl rfl rfl rfl rfl rfl rfl ?_
    refine j_bif_ne 46 27 dX6_refusalOfRun_24 (fun h24 => ?_) (fun h24 => ?_)
    · refine j_aload_0 47 dX6_refusalOfRun_46 rfl ?_
      refine j_iconst 48 dX6_refusalOfRun_47 ?_
      refine j_callV 51 Y_X6_refuse [0, 1] [_] (c_X6_refuse E _ _ _ _ _ _ _ _ _ _ 2 (by decide)) m_X6_refuse wml_X6_59 dX6_refusalOfRun_48 0 rfl rfl rfl rfl rfl rfl rfl rfl rfl (fun r N h => by obtain ⟨rfl, rfl⟩ := h; rfl) (fun r N h => ?_)
      obtain ⟨rfl, rfl⟩ := h
      refine j_goto 55 dX6_refusalOfRun_51 ?_
      obtain rfl : c = 2 := by omega
      exact j_iret dX6_refusalOfRun_55 rfl rfl ⟨rfl, rfl⟩
    · refine j_aload_0 28 dX6_refusalOfRun_27 rfl ?_
      refine j_get 31 0 gf_X6_26 dX6_refusalOfRun_28 rfl rfl ?_
      refine j_get 34 2 gf_X6_104 dX6_refusalOfRun_31 rfl rfl ?_
      refine j_iload_2 35 dX6_refusalOfRun_34 rfl ?_
      refine j_callVi 38 Y_X4_lacks [3] [_] (c_X4_lacks E _ _ _ _ (by exact ⟨by omega, by omega⟩) (by first | with_reducible assumption | exact ⟨by omega, by omega⟩)) m_X4_lacks wml_X6_245 dX6_refusalOfRun_35 0 rfl rfl rfl rfl rfl rfl rfl rfl rfl rfl ?_
      refine j_bif_ne 46 41 dX6_refusalOfRun_38 (fun h38 => ?_) (fun h38 => ?_)
      · refine j_aload_0 47 dX6_refusalOfRun_46 rfl ?_
        refine j_iconst 48 dX6_refusalOfRun_47 ?_
        refine j_callV 51 Y_X6_refuse [0, 1] [_] (c_X6_refuse E _ _ _ _ _ _ _ _ _ _ 2 (by decide)) m_X6_refuse wml_X6_59 dX6_refusalOfRun_48 0 rfl rfl rfl rfl rfl rfl rfl rfl rfl (fun r N h => by obtain ⟨rfl, rfl⟩ := h; rfl) (fun r N h => ?_)
        obtain ⟨rfl, rfl⟩ := h
        refine j_goto 55 dX6_refusalOfRun_51 ?_
        obtain rfl : c = 2 := by omega
        exact j_iret dX6_refusalOfRun_55 rfl rfl ⟨rfl, rfl⟩
      · refine j_iload_2 42 dX6_refusalOfRun_41 rfl ?_
        refine j_iload_1 43 dX6_refusalOfRun_42 rfl ?_
        refine j_icmp_ge 54 46 dX6_refusalOfRun_43 (by first | with_reducible exact iI_rng _ | with_reducible exact bI_r _ | exact ⟨by omega, by omega⟩) (by first | with_reducible exact iI_rng _ | with_reducible exact bI_r _ | exact ⟨by omega, by omega⟩) (fun h43 => ?_) (fun h43 => ?_)
        · omega
        · refine j_aload_0 47 dX6_refusalOfRun_46 rfl ?_
          refine j_iconst 48 dX6_refusalOfRun_47 ?_
          refine j_callV 51 Y_X6_refuse [0, 1] [_] (c_X6_refuse E _ _ _ _ _ _ _ _ _ _ 2 (by decide)) m_X6_refuse wml_X6_59 dX6_refusalOfRun_48 0 rfl rfl rfl rfl rfl rfl rfl rfl rfl (fun r N h => by obtain ⟨rfl, rfl⟩ := h; rfl) (fun r N h => ?_)
          obtain ⟨rfl, rfl⟩ := h
          refine j_goto 55 dX6_refusalOfRun_51 ?_
          obtain rfl : c = 2 := by omega
          exact j_iret dX6_refusalOfRun_55 rfl rfl ⟨rfl, rfl⟩
  · refine j_bipush 12 dX6_refusalOfRun_10 (by decide +kernel) ?_
    obtain rfl : c = -2 := by omega
    exact j_iret dX6_refusalOfRun_12 rfl rfl ⟨rfl, rfl⟩

set_option maxRecDepth 100000 in
set_option maxHeartbeats 4000000 in
theorem c_X6_refusalOfRun_ok (E : jD) (h0 : Nat) (h1 : Nat) (x0 : Nat) (g0 : Nat) (h10 : Nat) (y0 : Nat) (h42 : Nat) (x1 : Nat) (x2 : Nat) (x3 : Nat) (x4 : Nat) (x6 : Nat) (fnd : Int) (ask : Int) (wd : Int) (bl : Int) (n : Int) (fm : Nat → Int) (i j : Nat) (hn : -1 ≤ n ∧ n ≤ 48) (hij : i ≤ j) (hj : (j : Int) < n) : MC E Y_X6_refusalOfRun [.ref h0, .int (iI (i : Int)), .int (iI (j : Int))] [(h0, jO 6 [.ref h1, .ref x0, .ref g0, .ref h10, .ref y0, .ref h42, .int (iI fnd), .int (iI ask)]), (h42, jA E 5 (aI fm)), (x0, jO 3 [.ref x1, .ref x3, .ref x4, .ref x6, .int (iI wd), .int (iI bl)]), (x1, jO 4 [.ref x2, .int (iI n)])] (fun rr N0 => rr = some (.int (iI (0))) ∧ N0 = [(h0, jO 6 [.ref h1, .ref x0, .ref g0, .ref h10, .ref y0, .ref h42, .int (iI fnd), .int (iI ask)]), (h42, jA E 5 (aI fm)), (x0, jO 3 [.ref x1, .ref x3, .ref x4, .ref x6, .int (iI wd), .int (iI bl)]), (x1, jO 4 [.ref x2, .int (iI n)])]) := by
  refine MC.of (by decide) rfl rfl ?_
  refine j_aload_0 1 dX6_refusalOfRun_0 rfl ?_
  refine j_get 4 0 gf_X6_26 dX6_refusalOfRun_1 rfl rfl ?_
  refine j_callVi 7 Y_X3_isNone [2, 3] [] (c_X3_isNone E _ _ _ _ _ _ _ _ _ (by exact ⟨by omega, by omega⟩)) m_X3_isNone wml_X6_125 dX6_refusalOfRun_4 0 rfl rfl rfl rfl rfl rfl rfl rfl rfl rfl ?_
  refine j_bif_eq 13 10 dX6_refusalOfRun_7 (fun h7 => ?_) (fun h7 => ?_)
  · refine j_aload_0 14 dX6_refusalOfRun_13 rfl ?_
    refine j_get 17 0 gf_X6_26 dX6_refusalOfRun_14 rfl rfl ?_
    refine j_get 20 2 gf_X6_104 dX6_refusalOfRun_17 rfl rfl ?_
    refine j_iload_1 21 dX6_refusalOfRun_20 rfl ?_
    refine j_callVi 24 Y_X4_lacks [3] [_] (c_X4_lacks E _ _ _ _ (by exact ⟨by omega, by omega⟩) (by first | with_reducible assumption | exact ⟨by omega, by omega⟩)) m_X4_lacks wml_X6_245 dX6_refusalOfRun_21 0 rfl rfl rfl rfl rfl rfl rfl rfl rfl rfl ?_
    refine j_bif_ne 46 27 dX6_refusalOfRun_24 (fun h24 => ?_) (fun h24 => ?_)
    · omega
    · refine j_aload_0 28 dX6_refusalOfRun_27 rfl ?_
      refine j_get 31 0 gf_X6_26 dX6_refusalOfRun_28 rfl rfl ?_
      refine j_get 34 2 gf_X6_104 dX6_refusalOfRun_31 rfl rfl ?_
      refine j_iload_2 35 dX6_refusalOfRun_34 rfl ?_
      refine j_callVi 38 Y_X4_lacks [3] [_] (c_X4_lacks E _ _ _ _ (by exact ⟨by omega, by omega⟩) (by first | with_reducible assumption | exact ⟨by omega, by omega⟩)) m_X4_lacks wml_X6_245 dX6_refusalOfRun_35 0 rfl rfl rfl rfl rfl rfl rfl rfl rfl rfl ?_
      refine j_bif_ne 46 41 dX6_refusalOfRun_38 (fun h38 => ?_) (fun h38 => ?_)
      · omega
      · refine j_iload_2 42 dX6_refusalOfRun_41 rfl ?_
        refine j_iload_1 43 dX6_refusalOfRun_42 rfl ?_
        refine j_icmp_ge 54 46 dX6_refusalOfRun_43 (by first | with_reducible exact iI_rng _ | with_reducible exact bI_r _ | exact ⟨by omega, by omega⟩) (by first | with_reducible exact iI_rng _ | with_reducible exact bI_r _ | exact ⟨by omega, by omega⟩) (fun h43 => ?_) (fun h43 => ?_)
        · refine j_iconst 55 dX6_refusalOfRun_54 ?_
          exact j_iret dX6_refusalOfRun_55 rfl rfl ⟨rfl, rfl⟩
        · omega
  · omega

set_option maxRecDepth 100000 in
set_option maxHeartbeats 4000000 in
theorem c_X6_refusalOfItem_no (E : jD) (h0 : Nat) (h1 : Nat) (x0 : Nat) (g0 : Nat) (h10 : Nat) (y0 : Nat) (h42 : Nat) (x1 : Nat) (x2 : Nat) (x3 : Nat) (x4 : Nat) (x6 : Nat) (fnd : Int) (ask : Int) (wd : Int) (bl : Int) (n : Int) (fm : Nat → Int) (i c : Int) (hn : -1 ≤ n ∧ n ≤ 48) (hi : jr i) (hc : (n < 0 ∧ c = -2) ∨ (0 ≤ n ∧ (i < 0 ∨ n ≤ i) ∧ c = 2)) : MC E Y_X6_refusalOfItem [.ref h0, .int (iI i)] [(h0, jO 6 [.ref h1, .ref x0, .ref g0, .ref h10, .ref y0, .ref h42, .int (iI fnd), .int (iI ask)]), (h42, jA E 5 (aI fm)), (x0, jO 3 [.ref x1, .ref x3, .ref x4, .ref x6, .int (iI wd), .int (iI bl)]), (x1, jO 4 [.ref x2, .int (iI n)])] (fun rr N0 => rr = some (.int (iI (rz c))) ∧ N0 = [(h0, jO 6 [.ref h1, .ref x0, .ref g0, .ref h10, .ref y0, .ref h42, .int (iI (rf c fnd)), .int (iI ask)]), (h42, jA E 5 (aI (rm c fm))), (x0, jO 3 [.ref x1, .ref x3, .ref x4, .ref x6, .int (iI wd), .int (iI bl)]), (x1, jO 4 [.ref x2, .int (iI n)])]) := by
  refine MC.of (by decide) rfl rfl ?_
  refine j_aload_0 1 dX6_refusalOfItem_0 rfl ?_
  refine j_iload_1 2 dX6_refusalOfItem_1 rfl ?_
  refine j_iload_1 3 dX6_refusalOfItem_2 rfl ?_
  refine j_callV 6 Y_X6_refusalOfRun [0, 1, 2, 3] [_, _] (c_X6_refusalOfRun_no E _ _ _ _ _ _ _ _ _ _ _ _ _ _ _ _ _ _ _ _ c hn hi hi (by omega)) m_X6_refusalOfRun wml_X6_158 dX6_refusalOfItem_3 0 rfl rfl rfl rfl rfl rfl rfl rfl rfl (fun r N h => by obtain ⟨rfl, rfl⟩ := h; rfl) (fun r N h => ?_)
  obtain ⟨rfl, rfl⟩ := h
  exact j_iret dX6_refusalOfItem_6 rfl rfl ⟨rfl, rfl⟩

set_option maxRecDepth 100000 in
set_option maxHeartbeats 4000000 in
theorem c_X6_refusalOfItem_ok (E : jD) (h0 : Nat) (h1 : Nat) (x0 : Nat) (g0 : Nat) (h10 : Nat) (y0 : Nat) (h42 : Nat) (x1 : Nat) (x2 : Nat) (x3 : Nat) (x4 : Nat) (x6 : Nat) (fnd : Int) (ask : Int) (wd : Int) (bl : Int) (n : Int) (fm : Nat → Int) (i : Nat) (hn : -1 ≤ n ∧ n ≤ 48) (hi : (i : Int) < n) : MC E Y_X6_refusalOfItem [.ref h0, .int (iI (i : Int))] [(h0, jO 6 [.ref h1, .ref x0, .ref g0, .ref h10, .ref y0, .ref h42, .int (iI fnd), .int (iI ask)]), (h42, jA E 5 (aI fm)), (x0, jO 3 [.ref x1, .ref x3, .ref x4, .ref x6, .int (iI wd), .int (iI bl)]), (x1, jO 4 [.ref x2, .int (iI n)])] (fun rr N0 => rr = some (.int (iI (0))) ∧ N0 = [(h0, jO 6 [.ref h1, .ref x0, .ref g0, .ref h10, .ref y0, .ref h42, .int (iI fnd), .int (iI ask)]), (h42, jA E 5 (aI fm)), (x0, jO 3 [.ref x1, .ref x3, .ref x4, .ref x6, .int (iI wd), .int (iI bl)]), (x1, jO 4 [.ref x2, .int (iI n)])]) := by
  refine MC.of (by decide) rfl rfl ?_
  refine j_aload_0 1 dX6_refusalOfItem_0 rfl ?_
  refine j_iload_1 2 dX6_refusalOfItem_1 rfl ?_
  refine j_iload_1 3 dX6_refusalOfItem_2 rfl ?_
  refine j_callVi 6 Y_X6_refusalOfRun [0, 1, 2, 3] [_, _] (c_X6_refusalOfRun_ok E _ _ _ _ _ _ _ _ _ _ _ _ _ _ _ _ _ _ _ _ hn (Nat.le_refl _) hi) m_X6_refusalOfRun wml_X6_158 dX6_refusalOfItem_3 0 rfl rfl rfl rfl rfl rfl rfl rfl rfl rfl ?_
  exact j_iret dX6_refusalOfItem_6 rfl rfl ⟨rfl, rfl⟩

set_option maxRecDepth 100000 in
set_option maxHeartbeats 4000000 in
theorem c_X6_refusalOfNodes_no (E : jD) (h0 : Nat) (h1 : Nat) (x0 : Nat) (g0 : Nat) (h10 : Nat) (y0 : Nat) (h42 : Nat) (y1 : Nat) (y2 : Nat) (y3 : Nat) (y4 : Nat) (y5 : Nat) (y6 : Nat) (y8 : Nat) (fnd : Int) (ask : Int) (nd : Int) (fm : Nat → Int) (u v c : Int) (hnd : 0 ≤ nd ∧ nd ≤ 24) (hu : jr u) (hv : jr v) (hc : (nd = 0 ∧ c = -2) ∨ (¬ nd = 0 ∧ (u < 0 ∨ nd ≤ u ∨ v < 0 ∨ nd ≤ v) ∧ c = 2)) : MC E Y_X6_refusalOfNodes [.ref h0, .int (iI u), .int (iI v)] [(h0, jO 6 [.ref h1, .ref x0, .ref g0, .ref h10, .ref y0, .ref h42, .int (iI fnd), .int (iI ask)]), (h42, jA E 5 (aI fm)), (y0, jO 0 [.ref y1, .ref y2, .ref y3, .ref y4, .ref y5, .ref y6, .ref y8, .int (iI nd)])] (fun rr N0 => rr = some (.int (iI (rz c))) ∧ N0 = [(h0, jO 6 [.ref h1, .ref x0, .ref g0, .ref h10, .ref y0, .ref h42, .int (iI (rf c fnd)), .int (iI ask)]), (h42, jA E 5 (aI (rm c fm))), (y0, jO 0 [.ref y1, .ref y2, .ref y3, .ref y4, .ref y5, .ref y6, .ref y8, .int (iI nd)])]) := by
  refine MC.of (by decide) rfl rfl ?_
  refine j_aload_0 1 dX6_refusalOfNodes_0 rfl ?_
  refine j_get 4 0 gf_X6_40 dX6_refusalOfNodes_1 rfl rfl ?_
  refine j_get 7 2 gf_X6_196 dX6_refusalOfNodes_4 rfl rfl ?_
  refine j_if_ne 13 10 dX6_refusalOfNodes_7 (by first | with_reducible exact iI_rng _ | with_reducible exact bI_r _ | exact ⟨by omega, by omega⟩) (fun h7 => ?_) (fun h7 => ?_)
  · refine j_aload_0 14 dX6_refusalOfNodes_13 rfl ?_
    refine j_get 17 0 gf_X6_40 dX6_refusalOfNodes_14 rfl rfl ?_
    refine j_iload_1 18 dX6_refusalOfNodes_17 rfl ?_
    refine j_callVi 21 Y_X0_lacks [2] [_] (c_X0_lacks E _ _ _ _ _ _ _ _ _ _ (by exact ⟨by omega, by omega⟩) (by first | with_reducible assumption | exact ⟨by omega, by omega⟩)) m_X0_lacks wml_X6_211 dX6_refusalOfNodes_18 0 rfl rfl rfl rfl rfl rfl rfl rfl rfl rfl ?_
    refine j_bif_ne 35 24 dX6_refusalOfNodes_21 (fun h21 => ?_) (fun h21 => ?_)
    · refine j_aload_0 36 dX6_refusalOfNodes_35 rfl ?_
      refine j_iconst 37 dX6_refusalOfNodes_36 ?_
      refine j_callV 40 Y_X6_refuse [0, 1] [_] (c_X6_refuse E _ _ _ _ _ _ _ _ _ _ 2 (by decide)) m_X6_refuse wml_X6_59 dX6_refusalOfNodes_37 0 rfl rfl rfl rfl rfl rfl rfl rfl rfl (fun r N h => by obtain ⟨rfl, rfl⟩ := h; rfl) (fun r N h => ?_)
      obtain ⟨rfl, rfl⟩ := h
      refine j_goto 44 dX6_refusalOfNodes_40 ?_
      obtain rfl : c = 2 := by omega
      exact j_iret dX6_refusalOfNodes_44 rfl rfl ⟨rfl, rfl⟩
    · refine j_aload_0 25 dX6_refusalOfNodes_24 rfl ?_
      refine j_get 28 0 gf_X6_40 dX6_refusalOfNodes_25 rfl rfl ?_
      refine j_iload_2 29 dX6_refusalOfNodes_28 rfl ?_
      refine j_callVi 32 Y_X0_lacks [2] [_] (c_X0_lacks E _ _ _ _ _ _ _ _ _ _ (by exact ⟨by omega, by omega⟩) (by first | with_reducible assumption | exact ⟨by omega, by omega⟩)) m_X0_lacks wml_X6_211 dX6_refusalOfNodes_29 0 rfl rfl rfl rfl rfl rfl rfl rfl rfl rfl ?_
      refine j_bif_eq 43 35 dX6_refusalOfNodes_32 (fun h32 => ?_) (fun h32 => ?_)
      · omega
      · refine j_aload_0 36 dX6_refusalOfNodes_35 rfl ?_
        refine j_iconst 37 dX6_refusalOfNodes_36 ?_
        refine j_callV 40 Y_X6_refuse [0, 1] [_] (c_X6_refuse E _ _ _ _ _ _ _ _ _ _ 2 (by decide)) m_X6_refuse wml_X6_59 dX6_refusalOfNodes_37 0 rfl rfl rfl rfl rfl rfl rfl rfl rfl (fun r N h => by obtain ⟨rfl, rfl⟩ := h; rfl) (fun r N h => ?_)
        obtain ⟨rfl, rfl⟩ := h
        refine j_goto 44 dX6_refusalOfNodes_40 ?_
        obtain rfl : c = 2 := by omega
        exact j_iret dX6_refusalOfNodes_44 rfl rfl ⟨rfl, rfl⟩
  · refine j_bipush 12 dX6_refusalOfNodes_10 (by decide +kernel) ?_
    obtain rfl : c = -2 := by omega
    exact j_iret dX6_refusalOfNodes_12 rfl rfl ⟨rfl, rfl⟩

set_option maxRecDepth 100000 in
set_option maxHeartbeats 4000000 in
theorem c_X6_refusalOfNodes_ok (E : jD) (h0 : Nat) (h1 : Nat) (x0 : Nat) (g0 : Nat) (h10 : Nat) (y0 : Nat) (h42 : Nat) (y1 : Nat) (y2 : Nat) (y3 : Nat) (y4 : Nat) (y5 : Nat) (y6 : Nat) (y8 : Nat) (fnd : Int) (ask : Int) (nd : Int) (fm : Nat → Int) (u v : Nat) (hnd : 0 ≤ nd ∧ nd ≤ 24) (hu : (u : Int) < nd) (hv : (v : Int) < nd) : MC E Y_X6_refusalOfNodes [.ref h0, .int (iI (u : Int)), .int (iI (v : Int))] [(h0, jO 6 [.ref h1, .ref x0, .ref g0, .ref h10, .ref y0, .ref h42, .int (iI fnd), .int (iI ask)]), (h42, jA E 5 (aI fm)), (y0, jO 0 [.ref y1, .ref y2, .ref y3, .ref y4, .ref y5, .ref y6, .ref y8, .int (iI nd)])] (fun rr N0 => rr = some (.int (iI (0))) ∧ N0 = [(h0, jO 6 [.ref h1, .ref x0, .ref g0, .ref h10, .ref y0, .ref h42, .int (iI fnd), .int (iI ask)]), (h42, jA E 5 (aI fm)), (y0, jO 0 [.ref y1, .ref y2, .ref y3, .ref y4, .ref y5, .ref y6, .ref y8, .int (iI nd)])]) := by
  refine MC.of (by decide) rfl rfl ?_
  refine j_aload_0 1 dX6_refusalOfNodes_0 rfl ?_
  refine j_get 4 0 gf_X6_40 dX6_refusalOfNodes_1 rfl rfl ?_
  refine j_get 7 2 gf_X6_196 dX6_refusalOfNodes_4 rfl rfl ?_
  refine j_if_ne 13 10 dX6_refusalOfNodes_7 (by first | with_reducible exact iI_rng _ | with_reducible exact bI_r _ | exact ⟨by omega, by omega⟩) (fun h7 => ?_) (fun h7 => ?_)
  · refine j_aload_0 14 dX6_refusalOfNodes_13 rfl ?_
    refine j_get 17 0 gf_X6_40 dX6_refusalOfNodes_14 rfl rfl ?_
    refine j_iload_1 18 dX6_refusalOfNodes_17 rfl ?_
    refine j_callVi 21 Y_X0_lacks [2] [_] (c_X0_lacks E _ _ _ _ _ _ _ _ _ _ (by exact ⟨by omega, by omega⟩) (by first | with_reducible assumption | exact ⟨by omega, by omega⟩)) m_X0_lacks wml_X6_211 dX6_refusalOfNodes_18 0 rfl rfl rfl rfl rfl rfl rfl rfl rfl rfl ?_
    refine j_bif_ne 35 24 dX6_refusalOfNodes_21 (fun h21 => ?_) (fun h21 => ?_)
    · omega
    · refine j_aload_0 25 dX6_refusalOfNodes_24 rfl ?_
      refine j_get 28 0 gf_X6_40 dX6_refusalOfNodes_25 rfl rfl ?_
      refine j_iload_2 29 dX6_refusalOfNodes_28 rfl ?_
      refine j_callVi 32 Y_X0_lacks [2] [_] (c_X0_lacks E _ _ _ _ _ _ _ _ _ _ (by exact ⟨by omega, by omega⟩) (by first | with_reducible assumption | exact ⟨by omega, by omega⟩)) m_X0_lacks wml_X6_211 dX6_refusalOfNodes_29 0 rfl rfl rfl rfl rfl rfl rfl rfl rfl rfl ?_
      refine j_bif_eq 43 35 dX6_refusalOfNodes_32 (fun h32 => ?_) (fun h32 => ?_)
      · refine j_iconst 44 dX6_refusalOfNodes_43 ?_
        exact j_iret dX6_refusalOfNodes_44 rfl rfl ⟨rfl, rfl⟩
      · omega
  · omega

set_option maxRecDepth 100000 in
set_option maxHeartbeats 4000000 in
theorem c_X6_item_no (E : jD) (h0 : Nat) (h1 : Nat) (x0 : Nat) (g0 : Nat) (h10 : Nat) (y0 : Nat) (h42 : Nat) (x1 : Nat) (x2 : Nat) (x3 : Nat) (x4 : Nat) (x6 : Nat) (fnd : Int) (ask : Int) (wd : Int) (bl : Int) (n : Int) (fm : Nat → Int) (i c : Int) (hn : -1 ≤ n ∧ n ≤ 48) (hi : jr i) (hc : (n < 0 ∧ c = -2) ∨ (0 ≤ n ∧ (i < 0 ∨ n ≤ i) ∧ c = 2)) : MC E Y_X6_item [.ref h0, .int (iI i)] [(h0, jO 6 [.ref h1, .ref x0, .ref g0, .ref h10, .ref y0, .ref h42, .int (iI fnd), .int (iI ask)]), (h42, jA E 5 (aI fm)), (x0, jO 3 [.ref x1, .ref x3, .ref x4, .ref x6, .int (iI wd), .int (iI bl)]), (x1, jO 4 [.ref x2, .int (iI n)])] (fun rr N0 => rr = some (.int (iI (rz c))) ∧ N0 = [(h0, jO 6 [.ref h1, .ref x0, .ref g0, .ref h10, .ref y0, .ref h42, .int (iI (rf c fnd)), .int (iI ask)]), (h42, jA E 5 (aI (rm c fm))), (x0, jO 3 [.ref x1, .ref x3, .ref x4, .ref x6, .int (iI wd), .int (iI bl)]), (x1, jO 4 [.ref x2, .int (iI n)])]) := by
  refine MC.of (by decide) rfl rfl ?_
  refine j_aload_0 1 dX6_item_0 rfl ?_
  refine j_iload_1 2 dX6_item_1 rfl ?_
  refine j_callV 5 Y_X6_refusalOfItem [0, 1, 2, 3] [_] (c_X6_refusalOfItem_no E _ _ _ _ _ _ _ _ _ _ _ _ _ _ _ _ _ _ _ c hn hi (by omega)) m_X6_refusalOfItem wml_X6_101 dX6_item_2 0 rfl rfl rfl rfl rfl rfl rfl rfl rfl (fun r N h => by obtain ⟨rfl, rfl⟩ := h; rfl) (fun r N h => ?_)
  obtain ⟨rfl, rfl⟩ := h
  refine j_istore_2 6 (lv' := [(0, _), (1, _), (2, _)]) dX6_item_5 rfl ⟨rfl, rfl⟩ ?_
  have hz := rz_ne (c := c) (by omega)
  have hzr := rz_r (c := c) (by omega)
  refine j_iload_2 7 dX6_item_6 rfl ?_
  refine j_if_eq 12 10 dX6_item_7 hzr (fun h7 => ?_) (fun h7 => ?_)
  · omega
  · refine j_iload_2 11 dX6_item_10 rfl ?_
    exact j_iret dX6_item_11 rfl rfl ⟨rfl, rfl⟩

set_option maxRecDepth 100000 in
set_option maxHeartbeats 4000000 in
theorem c_X6_left_no (E : jD) (h0 : Nat) (h1 : Nat) (x0 : Nat) (g0 : Nat) (h10 : Nat) (y0 : Nat) (h42 : Nat) (x1 : Nat) (x2 : Nat) (x3 : Nat) (x4 : Nat) (x6 : Nat) (fnd : Int) (ask : Int) (wd : Int) (bl : Int) (n : Int) (fm : Nat → Int) (i c : Int) (hn : -1 ≤ n ∧ n ≤ 48) (hi : jr i) (hc : (n < 0 ∧ c = -2) ∨ (0 ≤ n ∧ (i < 0 ∨ n ≤ i) ∧ c = 2)) : MC E Y_X6_left [.ref h0, .int (iI i)] [(h0, jO 6 [.ref h1, .ref x0, .ref g0, .ref h10, .ref y0, .ref h42, .int (iI fnd), .int (iI ask)]), (h42, jA E 5 (aI fm)), (x0, jO 3 [.ref x1, .ref x3, .ref x4, .ref x6, .int (iI wd), .int (iI bl)]), (x1, jO 4 [.ref x2, .int (iI n)])] (fun rr N0 => rr = some (.int (iI (rz c))) ∧ N0 = [(h0, jO 6 [.ref h1, .ref x0, .ref g0, .ref h10, .ref y0, .ref h42, .int (iI (rf c fnd)), .int (iI ask)]), (h42, jA E 5 (aI (rm c fm))), (x0, jO 3 [.ref x1, .ref x3, .ref x4, .ref x6, .int (iI wd), .int (iI bl)]), (x1, jO 4 [.ref x2, .int (iI n)])]) := by
  refine MC.of (by decide) rfl rfl ?_
  refine j_aload_0 1 dX6_left_0 rfl ?_
  refine j_iload_1 2 dX6_left_1 rfl ?_
  refine j_callV 5 Y_X6_refusalOfItem [0, 1, 2, 3] [_] (c_X6_refusalOfItem_no E _ _ _ _ _ _ _ _ _ _ _ _ _ _ _ _ _ _ _ c hn hi (by omega)) m_X6_refusalOfItem wml_X6_101 dX6_left_2 0 rfl rfl rfl rfl rfl rfl rfl rfl rfl (fun r N h => by obtain ⟨rfl, rfl⟩ := h; rfl) (fun r N h => ?_)
  obtain ⟨rfl, rfl⟩ := h
  refine j_istore_2 6 (lv' := [(0, _), (1, _), (2, _)]) dX6_left_5 rfl ⟨rfl, rfl⟩ ?_
  have hz := rz_ne (c := c) (by omega)
  have hzr := rz_r (c := c) (by omega)
  refine j_iload_2 7 dX6_left_6 rfl ?_
  refine j_if_eq 12 10 dX6_left_7 hzr (fun h7 => ?_) (fun h7 => ?_)
  · omega
  · refine j_iload_2 11 dX6_left_10 rfl ?_
    exact j_iret dX6_left_11 rfl rfl ⟨rfl, rfl⟩

set_option maxRecDepth 100000 in
set_option maxHeartbeats 4000000 in
theorem c_X6_right_no (E : jD) (h0 : Nat) (h1 : Nat) (x0 : Nat) (g0 : Nat) (h10 : Nat) (y0 : Nat) (h42 : Nat) (x1 : Nat) (x2 : Nat) (x3 : Nat) (x4 : Nat) (x6 : Nat) (fnd : Int) (ask : Int) (wd : Int) (bl : Int) (n : Int) (fm : Nat → Int) (i c : Int) (hn : -1 ≤ n ∧ n ≤ 48) (hi : jr i) (hc : (n < 0 ∧ c = -2) ∨ (0 ≤ n ∧ (i < 0 ∨ n ≤ i) ∧ c = 2)) : MC E Y_X6_right [.ref h0, .int (iI i)] [(h0, jO 6 [.ref h1, .ref x0, .ref g0, .ref h10, .ref y0, .ref h42, .int (iI fnd), .int (iI ask)]), (h42, jA E 5 (aI fm)), (x0, jO 3 [.ref x1, .ref x3, .ref x4, .ref x6, .int (iI wd), .int (iI bl)]), (x1, jO 4 [.ref x2, .int (iI n)])] (fun rr N0 => rr = some (.int (iI (rz c))) ∧ N0 = [(h0, jO 6 [.ref h1, .ref x0, .ref g0, .ref h10, .ref y0, .ref h42, .int (iI (rf c fnd)), .int (iI ask)]), (h42, jA E 5 (aI (rm c fm))), (x0, jO 3 [.ref x1, .ref x3, .ref x4, .ref x6, .int (iI wd), .int (iI bl)]), (x1, jO 4 [.ref x2, .int (iI n)])]) := by
  refine MC.of (by decide) rfl rfl ?_
  refine j_aload_0 1 dX6_right_0 rfl ?_
  refine j_iload_1 2 dX6_right_1 rfl ?_
  refine j_callV 5 Y_X6_refusalOfItem [0, 1, 2, 3] [_] (c_X6_refusalOfItem_no E _ _ _ _ _ _ _ _ _ _ _ _ _ _ _ _ _ _ _ c hn hi (by omega)) m_X6_refusalOfItem wml_X6_101 dX6_right_2 0 rfl rfl rfl rfl rfl rfl rfl rfl rfl (fun r N h => by obtain ⟨rfl, rfl⟩ := h; rfl) (fun r N h => ?_)
  obtain ⟨rfl, rfl⟩ := h
  refine j_istore_2 6 (lv' := [(0, _), (1, _), (2, _)]) dX6_right_5 rfl ⟨rfl, rfl⟩ ?_
  have hz := rz_ne (c := c) (by omega)
  have hzr := rz_r (c := c) (by omega)
  refine j_iload_2 7 dX6_right_6 rfl ?_
  refine j_if_eq 12 10 dX6_right_7 hzr (fun h7 => ?_) (fun h7 => ?_)
  · omega
  · refine j_iload_2 11 dX6_right_10 rfl ?_
    exact j_iret dX6_right_11 rfl rfl ⟨rfl, rfl⟩

set_option maxRecDepth 100000 in
set_option maxHeartbeats 4000000 in
theorem c_X6_owns_no (E : jD) (h0 : Nat) (h1 : Nat) (x0 : Nat) (g0 : Nat) (h10 : Nat) (y0 : Nat) (h42 : Nat) (x1 : Nat) (x2 : Nat) (x3 : Nat) (x4 : Nat) (x6 : Nat) (fnd : Int) (ask : Int) (wd : Int) (bl : Int) (n : Int) (fm : Nat → Int) (i c : Int) (hn : -1 ≤ n ∧ n ≤ 48) (hi : jr i) (hc : (n < 0 ∧ c = -2) ∨ (0 ≤ n ∧ (i < 0 ∨ n ≤ i) ∧ c = 2)) : MC E Y_X6_owns [.ref h0, .int (iI i)] [(h0, jO 6 [.ref h1, .ref x0, .ref g0, .ref h10, .ref y0, .ref h42, .int (iI fnd), .int (iI ask)]), (h42, jA E 5 (aI fm)), (x0, jO 3 [.ref x1, .ref x3, .ref x4, .ref x6, .int (iI wd), .int (iI bl)]), (x1, jO 4 [.ref x2, .int (iI n)])] (fun rr N0 => rr = some (.int (iI (rz c))) ∧ N0 = [(h0, jO 6 [.ref h1, .ref x0, .ref g0, .ref h10, .ref y0, .ref h42, .int (iI (rf c fnd)), .int (iI ask)]), (h42, jA E 5 (aI (rm c fm))), (x0, jO 3 [.ref x1, .ref x3, .ref x4, .ref x6, .int (iI wd), .int (iI bl)]), (x1, jO 4 [.ref x2, .int (iI n)])]) := by
  refine MC.of (by decide) rfl rfl ?_
  refine j_aload_0 1 dX6_owns_0 rfl ?_
  refine j_iload_1 2 dX6_owns_1 rfl ?_
  refine j_callV 5 Y_X6_refusalOfItem [0, 1, 2, 3] [_] (c_X6_refusalOfItem_no E _ _ _ _ _ _ _ _ _ _ _ _ _ _ _ _ _ _ _ c hn hi (by omega)) m_X6_refusalOfItem wml_X6_101 dX6_owns_2 0 rfl rfl rfl rfl rfl rfl rfl rfl rfl (fun r N h => by obtain ⟨rfl, rfl⟩ := h; rfl) (fun r N h => ?_)
  obtain ⟨rfl, rfl⟩ := h
  refine j_istore_2 6 (lv' := [(0, _), (1, _), (2, _)]) dX6_owns_5 rfl ⟨rfl, rfl⟩ ?_
  have hz := rz_ne (c := c) (by omega)
  have hzr := rz_r (c := c) (by omega)
  refine j_iload_2 7 dX6_owns_6 rfl ?_
  refine j_if_eq 12 10 dX6_owns_7 hzr (fun h7 => ?_) (fun h7 => ?_)
  · omega
  · refine j_iload_2 11 dX6_owns_10 rfl ?_
    exact j_iret dX6_owns_11 rfl rfl ⟨rfl, rfl⟩

set_option maxRecDepth 100000 in
set_option maxHeartbeats 4000000 in
theorem c_X6_parent_no (E : jD) (h0 : Nat) (h1 : Nat) (x0 : Nat) (g0 : Nat) (h10 : Nat) (y0 : Nat) (h42 : Nat) (x1 : Nat) (x2 : Nat) (x3 : Nat) (x4 : Nat) (x6 : Nat) (fnd : Int) (ask : Int) (wd : Int) (bl : Int) (n : Int) (fm : Nat → Int) (i c : Int) (hn : -1 ≤ n ∧ n ≤ 48) (hi : jr i) (hc : (n < 0 ∧ c = -2) ∨ (0 ≤ n ∧ (i < 0 ∨ n ≤ i) ∧ c = 2)) : MC E Y_X6_parent [.ref h0, .int (iI i)] [(h0, jO 6 [.ref h1, .ref x0, .ref g0, .ref h10, .ref y0, .ref h42, .int (iI fnd), .int (iI ask)]), (h42, jA E 5 (aI fm)), (x0, jO 3 [.ref x1, .ref x3, .ref x4, .ref x6, .int (iI wd), .int (iI bl)]), (x1, jO 4 [.ref x2, .int (iI n)])] (fun rr N0 => rr = some (.int (iI (rz c))) ∧ N0 = [(h0, jO 6 [.ref h1, .ref x0, .ref g0, .ref h10, .ref y0, .ref h42, .int (iI (rf c fnd)), .int (iI ask)]), (h42, jA E 5 (aI (rm c fm))), (x0, jO 3 [.ref x1, .ref x3, .ref x4, .ref x6, .int (iI wd), .int (iI bl)]), (x1, jO 4 [.ref x2, .int (iI n)])]) := by
  refine MC.of (by decide) rfl rfl ?_
  refine j_aload_0 1 dX6_parent_0 rfl ?_
  refine j_iload_1 2 dX6_parent_1 rfl ?_
  refine j_callV 5 Y_X6_refusalOfItem [0, 1, 2, 3] [_] (c_X6_refusalOfItem_no E _ _ _ _ _ _ _ _ _ _ _ _ _ _ _ _ _ _ _ c hn hi (by omega)) m_X6_refusalOfItem wml_X6_101 dX6_parent_2 0 rfl rfl rfl rfl rfl rfl rfl rfl rfl (fun r N h => by obtain ⟨rfl, rfl⟩ := h; rfl) (fun r N h => ?_)
  obtain ⟨rfl, rfl⟩ := h
  refine j_istore_2 6 (lv' := [(0, _), (1, _), (2, _)]) dX6_parent_5 rfl ⟨rfl, rfl⟩ ?_
  have hz := rz_ne (c := c) (by omega)
  have hzr := rz_r (c := c) (by omega)
  refine j_iload_2 7 dX6_parent_6 rfl ?_
  refine j_if_eq 12 10 dX6_parent_7 hzr (fun h7 => ?_) (fun h7 => ?_)
  · omega
  · refine j_iload_2 11 dX6_parent_10 rfl ?_
    exact j_iret dX6_parent_11 rfl rfl ⟨rfl, rfl⟩

set_option maxRecDepth 100000 in
set_option maxHeartbeats 4000000 in
theorem c_X6_depth_no (E : jD) (h0 : Nat) (h1 : Nat) (x0 : Nat) (g0 : Nat) (h10 : Nat) (y0 : Nat) (h42 : Nat) (x1 : Nat) (x2 : Nat) (x3 : Nat) (x4 : Nat) (x6 : Nat) (fnd : Int) (ask : Int) (wd : Int) (bl : Int) (n : Int) (fm : Nat → Int) (i c : Int) (hn : -1 ≤ n ∧ n ≤ 48) (hi : jr i) (hc : (n < 0 ∧ c = -2) ∨ (0 ≤ n ∧ (i < 0 ∨ n ≤ i) ∧ c = 2)) : MC E Y_X6_depth [.ref h0, .int (iI i)] [(h0, jO 6 [.ref h1, .ref x0, .ref g0, .ref h10, .ref y0, .ref h42, .int (iI fnd), .int (iI ask)]), (h42, jA E 5 (aI fm)), (x0, jO 3 [.ref x1, .ref x3, .ref x4, .ref x6, .int (iI wd), .int (iI bl)]), (x1, jO 4 [.ref x2, .int (iI n)])] (fun rr N0 => rr = some (.int (iI (rz c))) ∧ N0 = [(h0, jO 6 [.ref h1, .ref x0, .ref g0, .ref h10, .ref y0, .ref h42, .int (iI (rf c fnd)), .int (iI ask)]), (h42, jA E 5 (aI (rm c fm))), (x0, jO 3 [.ref x1, .ref x3, .ref x4, .ref x6, .int (iI wd), .int (iI bl)]), (x1, jO 4 [.ref x2, .int (iI n)])]) := by
  refine MC.of (by decide) rfl rfl ?_
  refine j_aload_0 1 dX6_depth_0 rfl ?_
  refine j_iload_1 2 dX6_depth_1 rfl ?_
  refine j_callV 5 Y_X6_refusalOfItem [0, 1, 2, 3] [_] (c_X6_refusalOfItem_no E _ _ _ _ _ _ _ _ _ _ _ _ _ _ _ _ _ _ _ c hn hi (by omega)) m_X6_refusalOfItem wml_X6_101 dX6_depth_2 0 rfl rfl rfl rfl rfl rfl rfl rfl rfl (fun r N h => by obtain ⟨rfl, rfl⟩ := h; rfl) (fun r N h => ?_)
  obtain ⟨rfl, rfl⟩ := h
  refine j_istore_2 6 (lv' := [(0, _), (1, _), (2, _)]) dX6_depth_5 rfl ⟨rfl, rfl⟩ ?_
  have hz := rz_ne (c := c) (by omega)
  have hzr := rz_r (c := c) (by omega)
  refine j_iload_2 7 dX6_depth_6 rfl ?_
  refine j_if_eq 12 10 dX6_depth_7 hzr (fun h7 => ?_) (fun h7 => ?_)
  · omega
  · refine j_iload_2 11 dX6_depth_10 rfl ?_
    exact j_iret dX6_depth_11 rfl rfl ⟨rfl, rfl⟩

set_option maxRecDepth 100000 in
set_option maxHeartbeats 4000000 in
theorem c_X6_size_no (E : jD) (h0 : Nat) (h1 : Nat) (x0 : Nat) (g0 : Nat) (h10 : Nat) (y0 : Nat) (h42 : Nat) (x1 : Nat) (x2 : Nat) (x3 : Nat) (x4 : Nat) (x6 : Nat) (fnd : Int) (ask : Int) (wd : Int) (bl : Int) (n : Int) (fm : Nat → Int) (i c : Int) (hn : -1 ≤ n ∧ n ≤ 48) (hi : jr i) (hc : (n < 0 ∧ c = -2) ∨ (0 ≤ n ∧ (i < 0 ∨ n ≤ i) ∧ c = 2)) : MC E Y_X6_size [.ref h0, .int (iI i)] [(h0, jO 6 [.ref h1, .ref x0, .ref g0, .ref h10, .ref y0, .ref h42, .int (iI fnd), .int (iI ask)]), (h42, jA E 5 (aI fm)), (x0, jO 3 [.ref x1, .ref x3, .ref x4, .ref x6, .int (iI wd), .int (iI bl)]), (x1, jO 4 [.ref x2, .int (iI n)])] (fun rr N0 => rr = some (.int (iI (rz c))) ∧ N0 = [(h0, jO 6 [.ref h1, .ref x0, .ref g0, .ref h10, .ref y0, .ref h42, .int (iI (rf c fnd)), .int (iI ask)]), (h42, jA E 5 (aI (rm c fm))), (x0, jO 3 [.ref x1, .ref x3, .ref x4, .ref x6, .int (iI wd), .int (iI bl)]), (x1, jO 4 [.ref x2, .int (iI n)])]) := by
  refine MC.of (by decide) rfl rfl ?_
  refine j_aload_0 1 dX6_size_0 rfl ?_
  refine j_iload_1 2 dX6_size_1 rfl ?_
  refine j_callV 5 Y_X6_refusalOfItem [0, 1, 2, 3] [_] (c_X6_refusalOfItem_no E _ _ _ _ _ _ _ _ _ _ _ _ _ _ _ _ _ _ _ c hn hi (by omega)) m_X6_refusalOfItem wml_X6_101 dX6_size_2 0 rfl rfl rfl rfl rfl rfl rfl rfl rfl (fun r N h => by obtain ⟨rfl, rfl⟩ := h; rfl) (fun r N h => ?_)
  obtain ⟨rfl, rfl⟩ := h
  refine j_istore_2 6 (lv' := [(0, _), (1, _), (2, _)]) dX6_size_5 rfl ⟨rfl, rfl⟩ ?_
  have hz := rz_ne (c := c) (by omega)
  have hzr := rz_r (c := c) (by omega)
  refine j_iload_2 7 dX6_size_6 rfl ?_
  refine j_if_eq 12 10 dX6_size_7 hzr (fun h7 => ?_) (fun h7 => ?_)
  · omega
  · refine j_iload_2 11 dX6_size_10 rfl ?_
    exact j_iret dX6_size_11 rfl rfl ⟨rfl, rfl⟩

set_option maxRecDepth 100000 in
set_option maxHeartbeats 4000000 in
theorem c_X6_put_no (E : jD) (h0 : Nat) (h1 : Nat) (x0 : Nat) (g0 : Nat) (h10 : Nat) (y0 : Nat) (h42 : Nat) (x1 : Nat) (x2 : Nat) (x3 : Nat) (x4 : Nat) (x6 : Nat) (fnd : Int) (ask : Int) (wd : Int) (bl : Int) (n : Int) (fm : Nat → Int) (i c : Int) (v : Int32) (hn : -1 ≤ n ∧ n ≤ 48) (hi : jr i) (hc : (n < 0 ∧ c = -2) ∨ (0 ≤ n ∧ (i < 0 ∨ n ≤ i) ∧ c = 2)) : MC E Y_X6_put [.ref h0, .int (iI i), .int v] [(h0, jO 6 [.ref h1, .ref x0, .ref g0, .ref h10, .ref y0, .ref h42, .int (iI fnd), .int (iI ask)]), (h42, jA E 5 (aI fm)), (x0, jO 3 [.ref x1, .ref x3, .ref x4, .ref x6, .int (iI wd), .int (iI bl)]), (x1, jO 4 [.ref x2, .int (iI n)])] (fun rr N0 => rr = some (.int (iI (rz c))) ∧ N0 = [(h0, jO 6 [.ref h1, .ref x0, .ref g0, .ref h10, .ref y0, .ref h42, .int (iI (rf c fnd)), .int (iI ask)]), (h42, jA E 5 (aI (rm c fm))), (x0, jO 3 [.ref x1, .ref x3, .ref x4, .ref x6, .int (iI wd), .int (iI bl)]), (x1, jO 4 [.ref x2, .int (iI n)])]) := by
  refine MC.of (by decide) rfl rfl ?_
  refine j_aload_0 1 dX6_put_0 rfl ?_
  refine j_iload_1 2 dX6_put_1 rfl ?_
  refine j_callV 5 Y_X6_refusalOfItem [0, 1, 2, 3] [_] (c_X6_refusalOfItem_no E _ _ _ _ _ _ _ _ _ _ _ _ _ _ _ _ _ _ _ c hn hi (by omega)) m_X6_refusalOfItem wml_X6_101 dX6_put_2 0 rfl rfl rfl rfl rfl rfl rfl rfl rfl (fun r N h => by obtain ⟨rfl, rfl⟩ := h; rfl) (fun r N h => ?_)
  obtain ⟨rfl, rfl⟩ := h
  refine j_istore_3 6 (lv' := [(0, _), (1, _), (2, _), (3, _)]) dX6_put_5 rfl ⟨rfl, rfl⟩ ?_
  have hz := rz_ne (c := c) (by omega)
  have hzr := rz_r (c := c) (by omega)
  refine j_iload_3 7 dX6_put_6 rfl ?_
  refine j_if_eq 12 10 dX6_put_7 hzr (fun h7 => ?_) (fun h7 => ?_)
  · omega
  · refine j_iload_3 11 dX6_put_10 rfl ?_
    exact j_iret dX6_put_11 rfl rfl ⟨rfl, rfl⟩

set_option maxRecDepth 100000 in
set_option maxHeartbeats 4000000 in
theorem c_X6_above_no (E : jD) (h0 : Nat) (h1 : Nat) (x0 : Nat) (g0 : Nat) (h10 : Nat) (y0 : Nat) (h42 : Nat) (x1 : Nat) (x2 : Nat) (x3 : Nat) (x4 : Nat) (x6 : Nat) (fnd : Int) (ask : Int) (wd : Int) (bl : Int) (n : Int) (fm : Nat → Int) (i c : Int) (d : Int) (hn : -1 ≤ n ∧ n ≤ 48) (hi : jr i) (hc : (n < 0 ∧ c = -2) ∨ (0 ≤ n ∧ (i < 0 ∨ n ≤ i) ∧ c = 2)) : MC E Y_X6_above [.ref h0, .int (iI i), .int (iI d)] [(h0, jO 6 [.ref h1, .ref x0, .ref g0, .ref h10, .ref y0, .ref h42, .int (iI fnd), .int (iI ask)]), (h42, jA E 5 (aI fm)), (x0, jO 3 [.ref x1, .ref x3, .ref x4, .ref x6, .int (iI wd), .int (iI bl)]), (x1, jO 4 [.ref x2, .int (iI n)])] (fun rr N0 => rr = some (.int (iI (rz c))) ∧ N0 = [(h0, jO 6 [.ref h1, .ref x0, .ref g0, .ref h10, .ref y0, .ref h42, .int (iI (rf c fnd)), .int (iI ask)]), (h42, jA E 5 (aI (rm c fm))), (x0, jO 3 [.ref x1, .ref x3, .ref x4, .ref x6, .int (iI wd), .int (iI bl)]), (x1, jO 4 [.ref x2, .int (iI n)])]) := by
  refine MC.of (by decide) rfl rfl ?_
  refine j_aload_0 1 dX6_above_0 rfl ?_
  refine j_iload_1 2 dX6_above_1 rfl ?_
  refine j_callV 5 Y_X6_refusalOfItem [0, 1, 2, 3] [_] (c_X6_refusalOfItem_no E _ _ _ _ _ _ _ _ _ _ _ _ _ _ _ _ _ _ _ c hn hi (by omega)) m_X6_refusalOfItem wml_X6_101 dX6_above_2 0 rfl rfl rfl rfl rfl rfl rfl rfl rfl (fun r N h => by obtain ⟨rfl, rfl⟩ := h; rfl) (fun r N h => ?_)
  obtain ⟨rfl, rfl⟩ := h
  refine j_istore_3 6 (lv' := [(0, _), (1, _), (2, _), (3, _)]) dX6_above_5 rfl ⟨rfl, rfl⟩ ?_
  have hz := rz_ne (c := c) (by omega)
  have hzr := rz_r (c := c) (by omega)
  refine j_iload_3 7 dX6_above_6 rfl ?_
  refine j_if_eq 12 10 dX6_above_7 hzr (fun h7 => ?_) (fun h7 => ?_)
  · omega
  · refine j_iload_3 11 dX6_above_10 rfl ?_
    exact j_iret dX6_above_11 rfl rfl ⟨rfl, rfl⟩

set_option maxRecDepth 100000 in
set_option maxHeartbeats 4000000 in
theorem c_X6_least_no (E : jD) (h0 : Nat) (h1 : Nat) (x0 : Nat) (g0 : Nat) (h10 : Nat) (y0 : Nat) (h42 : Nat) (x1 : Nat) (x2 : Nat) (x3 : Nat) (x4 : Nat) (x6 : Nat) (fnd : Int) (ask : Int) (wd : Int) (bl : Int) (n : Int) (fm : Nat → Int) (i j c : Int) (hn : -1 ≤ n ∧ n ≤ 48) (hi : jr i) (hj : jr j) (hc : (n < 0 ∧ c = -2) ∨ (0 ≤ n ∧ (i < 0 ∨ n ≤ i ∨ j < i ∨ n ≤ j) ∧ c = 2)) : MC E Y_X6_least [.ref h0, .int (iI i), .int (iI j)] [(h0, jO 6 [.ref h1, .ref x0, .ref g0, .ref h10, .ref y0, .ref h42, .int (iI fnd), .int (iI ask)]), (h42, jA E 5 (aI fm)), (x0, jO 3 [.ref x1, .ref x3, .ref x4, .ref x6, .int (iI wd), .int (iI bl)]), (x1, jO 4 [.ref x2, .int (iI n)])] (fun rr N0 => rr = some (.int (iI (rz c))) ∧ N0 = [(h0, jO 6 [.ref h1, .ref x0, .ref g0, .ref h10, .ref y0, .ref h42, .int (iI (rf c fnd)), .int (iI ask)]), (h42, jA E 5 (aI (rm c fm))), (x0, jO 3 [.ref x1, .ref x3, .ref x4, .ref x6, .int (iI wd), .int (iI bl)]), (x1, jO 4 [.ref x2, .int (iI n)])]) := by
  refine MC.of (by decide) rfl rfl ?_
  refine j_aload_0 1 dX6_least_0 rfl ?_
  refine j_iload_1 2 dX6_least_1 rfl ?_
  refine j_iload_2 3 dX6_least_2 rfl ?_
  refine j_callV 6 Y_X6_refusalOfRun [0, 1, 2, 3] [_, _] (c_X6_refusalOfRun_no E _ _ _ _ _ _ _ _ _ _ _ _ _ _ _ _ _ _ _ _ c hn hi hj (by omega)) m_X6_refusalOfRun wml_X6_158 dX6_least_3 0 rfl rfl rfl rfl rfl rfl rfl rfl rfl (fun r N h => by obtain ⟨rfl, rfl⟩ := h; rfl) (fun r N h => ?_)
  obtain ⟨rfl, rfl⟩ := h
  refine j_istore_3 7 (lv' := [(0, _), (1, _), (2, _), (3, _)]) dX6_least_6 rfl ⟨rfl, rfl⟩ ?_
  have hz := rz_ne (c := c) (by omega)
  have hzr := rz_r (c := c) (by omega)
  refine j_iload_3 8 dX6_least_7 rfl ?_
  refine j_if_eq 13 11 dX6_least_8 hzr (fun h8 => ?_) (fun h8 => ?_)
  · omega
  · refine j_iload_3 12 dX6_least_11 rfl ?_
    exact j_iret dX6_least_12 rfl rfl ⟨rfl, rfl⟩

set_option maxRecDepth 100000 in
set_option maxHeartbeats 4000000 in
theorem c_X6_kth_no (E : jD) (h0 : Nat) (h1 : Nat) (x0 : Nat) (g0 : Nat) (h10 : Nat) (y0 : Nat) (h42 : Nat) (x1 : Nat) (x2 : Nat) (x3 : Nat) (x4 : Nat) (x6 : Nat) (fnd : Int) (ask : Int) (wd : Int) (bl : Int) (n : Int) (fm : Nat → Int) (i j k c : Int) (hn : -1 ≤ n ∧ n ≤ 48) (hi : jr i) (hj : jr j) (hc : (n < 0 ∧ c = -2) ∨ (0 ≤ n ∧ (i < 0 ∨ n ≤ i ∨ j < i ∨ n ≤ j) ∧ c = 2)) : MC E Y_X6_kth [.ref h0, .int (iI i), .int (iI j), .int (iI k)] [(h0, jO 6 [.ref h1, .ref x0, .ref g0, .ref h10, .ref y0, .ref h42, .int (iI fnd), .int (iI ask)]), (h42, jA E 5 (aI fm)), (x0, jO 3 [.ref x1, .ref x3, .ref x4, .ref x6, .int (iI wd), .int (iI bl)]), (x1, jO 4 [.ref x2, .int (iI n)])] (fun rr N0 => rr = some (.int (iI (rz c))) ∧ N0 = [(h0, jO 6 [.ref h1, .ref x0, .ref g0, .ref h10, .ref y0, .ref h42, .int (iI (rf c fnd)), .int (iI ask)]), (h42, jA E 5 (aI (rm c fm))), (x0, jO 3 [.ref x1, .ref x3, .ref x4, .ref x6, .int (iI wd), .int (iI bl)]), (x1, jO 4 [.ref x2, .int (iI n)])]) := by
  refine MC.of (by decide) rfl rfl ?_
  refine j_aload_0 1 dX6_kth_0 rfl ?_
  refine j_iload_1 2 dX6_kth_1 rfl ?_
  refine j_iload_2 3 dX6_kth_2 rfl ?_
  refine j_callV 6 Y_X6_refusalOfRun [0, 1, 2, 3] [_, _] (c_X6_refusalOfRun_no E _ _ _ _ _ _ _ _ _ _ _ _ _ _ _ _ _ _ _ _ c hn hi hj (by omega)) m_X6_refusalOfRun wml_X6_158 dX6_kth_3 0 rfl rfl rfl rfl rfl rfl rfl rfl rfl (fun r N h => by obtain ⟨rfl, rfl⟩ := h; rfl) (fun r N h => ?_)
  obtain ⟨rfl, rfl⟩ := h
  refine j_istore 8 (lv' := [(0, _), (1, _), (2, _), (3, _), (4, _)]) dX6_kth_6 rfl ⟨rfl, rfl⟩ ?_
  have hz := rz_ne (c := c) (by omega)
  have hzr := rz_r (c := c) (by omega)
  refine j_iload 10 dX6_kth_8 rfl ?_
  refine j_if_eq 16 13 dX6_kth_10 hzr (fun h10 => ?_) (fun h10 => ?_)
  · omega
  · refine j_iload 15 dX6_kth_13 rfl ?_
    exact j_iret dX6_kth_15 rfl rfl ⟨rfl, rfl⟩

set_option maxRecDepth 100000 in
set_option maxHeartbeats 4000000 in
theorem c_X6_meet_no (E : jD) (h0 : Nat) (h1 : Nat) (x0 : Nat) (g0 : Nat) (h10 : Nat) (y0 : Nat) (h42 : Nat) (y1 : Nat) (y2 : Nat) (y3 : Nat) (y4 : Nat) (y5 : Nat) (y6 : Nat) (y8 : Nat) (fnd : Int) (ask : Int) (nd : Int) (fm : Nat → Int) (u v c : Int) (hnd : 0 ≤ nd ∧ nd ≤ 24) (hu : jr u) (hv : jr v) (hc : (nd = 0 ∧ c = -2) ∨ (¬ nd = 0 ∧ (u < 0 ∨ nd ≤ u ∨ v < 0 ∨ nd ≤ v) ∧ c = 2)) : MC E Y_X6_meet [.ref h0, .int (iI u), .int (iI v)] [(h0, jO 6 [.ref h1, .ref x0, .ref g0, .ref h10, .ref y0, .ref h42, .int (iI fnd), .int (iI ask)]), (h42, jA E 5 (aI fm)), (y0, jO 0 [.ref y1, .ref y2, .ref y3, .ref y4, .ref y5, .ref y6, .ref y8, .int (iI nd)])] (fun rr N0 => rr = some (.int (iI (rz c))) ∧ N0 = [(h0, jO 6 [.ref h1, .ref x0, .ref g0, .ref h10, .ref y0, .ref h42, .int (iI (rf c fnd)), .int (iI ask)]), (h42, jA E 5 (aI (rm c fm))), (y0, jO 0 [.ref y1, .ref y2, .ref y3, .ref y4, .ref y5, .ref y6, .ref y8, .int (iI nd)])]) := by
  refine MC.of (by decide) rfl rfl ?_
  refine j_aload_0 1 dX6_meet_0 rfl ?_
  refine j_iload_1 2 dX6_meet_1 rfl ?_
  refine j_iload_2 3 dX6_meet_2 rfl ?_
  refine j_callV 6 Y_X6_refusalOfNodes [0, 1, 2] [_, _] (c_X6_refusalOfNodes_no E _ _ _ _ _ _ _ _ _ _ _ _ _ _ _ _ _ _ _ _ c hnd hu hv (by omega)) m_X6_refusalOfNodes wml_X6_199 dX6_meet_3 0 rfl rfl rfl rfl rfl rfl rfl rfl rfl (fun r N h => by obtain ⟨rfl, rfl⟩ := h; rfl) (fun r N h => ?_)
  obtain ⟨rfl, rfl⟩ := h
  refine j_istore_3 7 (lv' := [(0, _), (1, _), (2, _), (3, _)]) dX6_meet_6 rfl ⟨rfl, rfl⟩ ?_
  have hz := rz_ne (c := c) (by omega)
  have hzr := rz_r (c := c) (by omega)
  refine j_iload_3 8 dX6_meet_7 rfl ?_
  refine j_if_eq 13 11 dX6_meet_8 hzr (fun h8 => ?_) (fun h8 => ?_)
  · omega
  · refine j_iload_3 12 dX6_meet_11 rfl ?_
    exact j_iret dX6_meet_12 rfl rfl ⟨rfl, rfl⟩

set_option maxRecDepth 100000 in
set_option maxHeartbeats 4000000 in
theorem c_X6_apart_no (E : jD) (h0 : Nat) (h1 : Nat) (x0 : Nat) (g0 : Nat) (h10 : Nat) (y0 : Nat) (h42 : Nat) (y1 : Nat) (y2 : Nat) (y3 : Nat) (y4 : Nat) (y5 : Nat) (y6 : Nat) (y8 : Nat) (fnd : Int) (ask : Int) (nd : Int) (fm : Nat → Int) (u v c : Int) (hnd : 0 ≤ nd ∧ nd ≤ 24) (hu : jr u) (hv : jr v) (hc : (nd = 0 ∧ c = -2) ∨ (¬ nd = 0 ∧ (u < 0 ∨ nd ≤ u ∨ v < 0 ∨ nd ≤ v) ∧ c = 2)) : MC E Y_X6_apart [.ref h0, .int (iI u), .int (iI v)] [(h0, jO 6 [.ref h1, .ref x0, .ref g0, .ref h10, .ref y0, .ref h42, .int (iI fnd), .int (iI ask)]), (h42, jA E 5 (aI fm)), (y0, jO 0 [.ref y1, .ref y2, .ref y3, .ref y4, .ref y5, .ref y6, .ref y8, .int (iI nd)])] (fun rr N0 => rr = some (.int (iI (rz c))) ∧ N0 = [(h0, jO 6 [.ref h1, .ref x0, .ref g0, .ref h10, .ref y0, .ref h42, .int (iI (rf c fnd)), .int (iI ask)]), (h42, jA E 5 (aI (rm c fm))), (y0, jO 0 [.ref y1, .ref y2, .ref y3, .ref y4, .ref y5, .ref y6, .ref y8, .int (iI nd)])]) := by
  refine MC.of (by decide) rfl rfl ?_
  refine j_aload_0 1 dX6_apart_0 rfl ?_
  refine j_iload_1 2 dX6_apart_1 rfl ?_
  refine j_iload_2 3 dX6_apart_2 rfl ?_
  refine j_callV 6 Y_X6_refusalOfNodes [0, 1, 2] [_, _] (c_X6_refusalOfNodes_no E _ _ _ _ _ _ _ _ _ _ _ _ _ _ _ _ _ _ _ _ c hnd hu hv (by omega)) m_X6_refusalOfNodes wml_X6_199 dX6_apart_3 0 rfl rfl rfl rfl rfl rfl rfl rfl rfl (fun r N h => by obtain ⟨rfl, rfl⟩ := h; rfl) (fun r N h => ?_)
  obtain ⟨rfl, rfl⟩ := h
  refine j_istore_3 7 (lv' := [(0, _), (1, _), (2, _), (3, _)]) dX6_apart_6 rfl ⟨rfl, rfl⟩ ?_
  have hz := rz_ne (c := c) (by omega)
  have hzr := rz_r (c := c) (by omega)
  refine j_iload_3 8 dX6_apart_7 rfl ?_
  refine j_if_eq 13 11 dX6_apart_8 hzr (fun h8 => ?_) (fun h8 => ?_)
  · omega
  · refine j_iload_3 12 dX6_apart_11 rfl ?_
    exact j_iret dX6_apart_12 rfl rfl ⟨rfl, rfl⟩

set_option maxRecDepth 100000 in
set_option maxHeartbeats 4000000 in
theorem c_X6_up_no (E : jD) (h0 : Nat) (h1 : Nat) (x0 : Nat) (g0 : Nat) (h10 : Nat) (y0 : Nat) (h42 : Nat) (y1 : Nat) (y2 : Nat) (y3 : Nat) (y4 : Nat) (y5 : Nat) (y6 : Nat) (y8 : Nat) (fnd : Int) (ask : Int) (nd : Int) (fm : Nat → Int) (u d c : Int) (hnd : 0 ≤ nd ∧ nd ≤ 24) (hu : jr u) (hc : (nd = 0 ∧ c = -2) ∨ (¬ nd = 0 ∧ (u < 0 ∨ nd ≤ u) ∧ c = 2)) : MC E Y_X6_up [.ref h0, .int (iI u), .int (iI d)] [(h0, jO 6 [.ref h1, .ref x0, .ref g0, .ref h10, .ref y0, .ref h42, .int (iI fnd), .int (iI ask)]), (h42, jA E 5 (aI fm)), (y0, jO 0 [.ref y1, .ref y2, .ref y3, .ref y4, .ref y5, .ref y6, .ref y8, .int (iI nd)])] (fun rr N0 => rr = some (.int (iI (rz c))) ∧ N0 = [(h0, jO 6 [.ref h1, .ref x0, .ref g0, .ref h10, .ref y0, .ref h42, .int (iI (rf c fnd)), .int (iI ask)]), (h42, jA E 5 (aI (rm c fm))), (y0, jO 0 [.ref y1, .ref y2, .ref y3, .ref y4, .ref y5, .ref y6, .ref y8, .int (iI nd)])]) := by
  refine MC.of (by decide) rfl rfl ?_
  refine j_aload_0 1 dX6_up_0 rfl ?_
  refine j_iload_1 2 dX6_up_1 rfl ?_
  refine j_iload_1 3 dX6_up_2 rfl ?_
  refine j_callV 6 Y_X6_refusalOfNodes [0, 1, 2] [_, _] (c_X6_refusalOfNodes_no E _ _ _ _ _ _ _ _ _ _ _ _ _ _ _ _ _ _ _ _ c hnd hu hu (by omega)) m_X6_refusalOfNodes wml_X6_199 dX6_up_3 0 rfl rfl rfl rfl rfl rfl rfl rfl rfl (fun r N h => by obtain ⟨rfl, rfl⟩ := h; rfl) (fun r N h => ?_)
  obtain ⟨rfl, rfl⟩ := h
  refine j_istore_3 7 (lv' := [(0, _), (1, _), (2, _), (3, _)]) dX6_up_6 rfl ⟨rfl, rfl⟩ ?_
  have hz := rz_ne (c := c) (by omega)
  have hzr := rz_r (c := c) (by omega)
  refine j_iload_3 8 dX6_up_7 rfl ?_
  refine j_if_eq 13 11 dX6_up_8 hzr (fun h8 => ?_) (fun h8 => ?_)
  · omega
  · refine j_iload_3 12 dX6_up_11 rfl ?_
    exact j_iret dX6_up_12 rfl rfl ⟨rfl, rfl⟩

set_option maxRecDepth 100000 in
set_option maxHeartbeats 4000000 in
theorem c_X6_lay_bad (E : jD) (h0 : Nat) (h1 : Nat) (x0 : Nat) (g0 : Nat) (h10 : Nat) (y0 : Nat) (h42 : Nat) (fnd : Int) (ask : Int) (r i : Int) (v : Int32) (hr : jr r) (hb : r < 0 ∨ 4 ≤ r) : MC E Y_X6_lay [.ref h0, .int (iI r), .int (iI i), .int v] [(h0, jO 6 [.ref h1, .ref x0, .ref g0, .ref h10, .ref y0, .ref h42, .int (iI fnd), .int (iI ask)])] (fun rr N0 => rr = some (.int (iI (-1))) ∧ N0 = [(h0, jO 6 [.ref h1, .ref x0, .ref g0, .ref h10, .ref y0, .ref h42, .int (iI fnd), .int (iI ask)])]) := by
  refine MC.of (by decide) rfl rfl ?_
  refine j_aload_0 1 dX6_lay_0 rfl ?_
  refine j_iload_1 2 dX6_lay_1 rfl ?_
  refine j_iload_2 3 dX6_lay_2 rfl ?_
  refine j_callVi 6 Y_X6_refusalOfPlace [0] [_, _] (c_X6_refusalOfPlace_bad E _ _ _ _ _ _ _ _ _ _ _ hr hb) m_X6_refusalOfPlace wml_X6_67 dX6_lay_3 0 rfl rfl rfl rfl rfl rfl rfl rfl rfl rfl ?_
  refine j_istore 8 (lv' := [(0, _), (1, _), (2, _), (3, _), (4, _)]) dX6_lay_6 rfl ⟨rfl, rfl⟩ ?_
  refine j_iload 10 dX6_lay_8 rfl ?_
  refine j_if_eq 16 13 dX6_lay_10 (by first | with_reducible exact iI_rng _ | with_reducible exact bI_r _ | exact ⟨by omega, by omega⟩) (fun h10 => ?_) (fun h10 => ?_)
  · omega
  · refine j_iload 15 dX6_lay_13 rfl ?_
    exact j_iret dX6_lay_15 rfl rfl ⟨rfl, rfl⟩

set_option maxRecDepth 100000 in
set_option maxHeartbeats 4000000 in
theorem c_X6_lay_no (E : jD) (h0 : Nat) (h1 : Nat) (x0 : Nat) (g0 : Nat) (h10 : Nat) (y0 : Nat) (h42 : Nat) (b : Nat) (b1 : Nat) (fnd : Int) (ask : Int) (N : Int) (fm : Nat → Int) (ra : Nat → Option Nat) (r : Nat) (i c : Int) (v : Int32) (hr4 : r < 4) (hra : ra r = some b) (hN : -1 ≤ N ∧ N ≤ 48) (hi : jr i) (hc : (N < 0 ∧ c = 1) ∨ (0 ≤ N ∧ (i < 0 ∨ N ≤ i) ∧ c = 2)) : MC E Y_X6_lay [.ref h0, .int (iI (r : Int)), .int (iI i), .int v] [(h0, jO 6 [.ref h1, .ref x0, .ref g0, .ref h10, .ref y0, .ref h42, .int (iI fnd), .int (iI ask)]), (h42, jA E 5 (aI fm)), (h1, jR E 2 4 ra), (b, jO 4 [.ref b1, .int (iI N)])] (fun rr N0 => rr = some (.int (iI (rz c))) ∧ N0 = [(h0, jO 6 [.ref h1, .ref x0, .ref g0, .ref h10, .ref y0, .ref h42, .int (iI (rf c fnd)), .int (iI ask)]), (h42, jA E 5 (aI (rm c fm))), (h1, jR E 2 4 ra), (b, jO 4 [.ref b1, .int (iI N)])]) := by
  refine MC.of (by decide) rfl rfl ?_
  refine j_aload_0 1 dX6_lay_0 rfl ?_
  refine j_iload_1 2 dX6_lay_1 rfl ?_
  refine j_iload_2 3 dX6_lay_2 rfl ?_
  refine j_callV 6 Y_X6_refusalOfPlace [0, 1, 2, 3] [_, _] (c_X6_refusalOfPlace_no E _ _ _ _ _ _ _ _ _ _ _ _ _ _ _ _ c hr4 hra hN hi (by omega)) m_X6_refusalOfPlace wml_X6_67 dX6_lay_3 0 rfl rfl rfl rfl rfl rfl rfl rfl rfl (fun r N h => by obtain ⟨rfl, rfl⟩ := h; rfl) (fun r N h => ?_)
  obtain ⟨rfl, rfl⟩ := h
  refine j_istore 8 (lv' := [(0, _), (1, _), (2, _), (3, _), (4, _)]) dX6_lay_6 rfl ⟨rfl, rfl⟩ ?_
  have hz := rz_ne (c := c) (by omega)
  have hzr := rz_r (c := c) (by omega)
  refine j_iload 10 dX6_lay_8 rfl ?_
  refine j_if_eq 16 13 dX6_lay_10 hzr (fun h10 => ?_) (fun h10 => ?_)
  · omega
  · refine j_iload 15 dX6_lay_13 rfl ?_
    exact j_iret dX6_lay_15 rfl rfl ⟨rfl, rfl⟩

set_option maxRecDepth 100000 in
set_option maxHeartbeats 4000000 in
theorem c_X6_at_bad (E : jD) (h0 : Nat) (h1 : Nat) (x0 : Nat) (g0 : Nat) (h10 : Nat) (y0 : Nat) (h42 : Nat) (fnd : Int) (ask : Int) (r i : Int) (hr : jr r) (hb : r < 0 ∨ 4 ≤ r) : MC E Y_X6_at [.ref h0, .int (iI r), .int (iI i)] [(h0, jO 6 [.ref h1, .ref x0, .ref g0, .ref h10, .ref y0, .ref h42, .int (iI fnd), .int (iI ask)])] (fun rr N0 => rr = some (.int (iI (-1))) ∧ N0 = [(h0, jO 6 [.ref h1, .ref x0, .ref g0, .ref h10, .ref y0, .ref h42, .int (iI fnd), .int (iI ask)])]) := by
  refine MC.of (by decide) rfl rfl ?_
  refine j_aload_0 1 dX6_at_0 rfl ?_
  refine j_iload_1 2 dX6_at_1 rfl ?_
  refine j_iload_2 3 dX6_at_2 rfl ?_
  refine j_callVi 6 Y_X6_refusalOfPlace [0] [_, _] (c_X6_refusalOfPlace_bad E _ _ _ _ _ _ _ _ _ _ _ hr hb) m_X6_refusalOfPlace wml_X6_67 dX6_at_3 0 rfl rfl rfl rfl rfl rfl rfl rfl rfl rfl ?_
  refine j_istore_3 7 (lv' := [(0, _), (1, _), (2, _), (3, _)]) dX6_at_6 rfl ⟨rfl, rfl⟩ ?_
  refine j_iload_3 8 dX6_at_7 rfl ?_
  refine j_if_eq 13 11 dX6_at_8 (by first | with_reducible exact iI_rng _ | with_reducible exact bI_r _ | exact ⟨by omega, by omega⟩) (fun h8 => ?_) (fun h8 => ?_)
  · omega
  · refine j_iload_3 12 dX6_at_11 rfl ?_
    exact j_iret dX6_at_12 rfl rfl ⟨rfl, rfl⟩

set_option maxRecDepth 100000 in
set_option maxHeartbeats 4000000 in
theorem c_X6_at_no (E : jD) (h0 : Nat) (h1 : Nat) (x0 : Nat) (g0 : Nat) (h10 : Nat) (y0 : Nat) (h42 : Nat) (b : Nat) (b1 : Nat) (fnd : Int) (ask : Int) (N : Int) (fm : Nat → Int) (ra : Nat → Option Nat) (r : Nat) (i c : Int) (hr4 : r < 4) (hra : ra r = some b) (hN : -1 ≤ N ∧ N ≤ 48) (hi : jr i) (hc : (N < 0 ∧ c = 1) ∨ (0 ≤ N ∧ (i < 0 ∨ N ≤ i) ∧ c = 2)) : MC E Y_X6_at [.ref h0, .int (iI (r : Int)), .int (iI i)] [(h0, jO 6 [.ref h1, .ref x0, .ref g0, .ref h10, .ref y0, .ref h42, .int (iI fnd), .int (iI ask)]), (h42, jA E 5 (aI fm)), (h1, jR E 2 4 ra), (b, jO 4 [.ref b1, .int (iI N)])] (fun rr N0 => rr = some (.int (iI (rz c))) ∧ N0 = [(h0, jO 6 [.ref h1, .ref x0, .ref g0, .ref h10, .ref y0, .ref h42, .int (iI (rf c fnd)), .int (iI ask)]), (h42, jA E 5 (aI (rm c fm))), (h1, jR E 2 4 ra), (b, jO 4 [.ref b1, .int (iI N)])]) := by
  refine MC.of (by decide) rfl rfl ?_
  refine j_aload_0 1 dX6_at_0 rfl ?_
  refine j_iload_1 2 dX6_at_1 rfl ?_
  refine j_iload_2 3 dX6_at_2 rfl ?_
  refine j_callV 6 Y_X6_refusalOfPlace [0, 1, 2, 3] [_, _] (c_X6_refusalOfPlace_no E _ _ _ _ _ _ _ _ _ _ _ _ _ _ _ _ c hr4 hra hN hi (by omega)) m_X6_refusalOfPlace wml_X6_67 dX6_at_3 0 rfl rfl rfl rfl rfl rfl rfl rfl rfl (fun r N h => by obtain ⟨rfl, rfl⟩ := h; rfl) (fun r N h => ?_)
  obtain ⟨rfl, rfl⟩ := h
  refine j_istore_3 7 (lv' := [(0, _), (1, _), (2, _), (3, _)]) dX6_at_6 rfl ⟨rfl, rfl⟩ ?_
  have hz := rz_ne (c := c) (by omega)
  have hzr := rz_r (c := c) (by omega)
  refine j_iload_3 8 dX6_at_7 rfl ?_
  refine j_if_eq 13 11 dX6_at_8 hzr (fun h8 => ?_) (fun h8 => ?_)
  · omega
  · refine j_iload_3 12 dX6_at_11 rfl ?_
    exact j_iret dX6_at_12 rfl rfl ⟨rfl, rfl⟩
