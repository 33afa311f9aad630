set_option maxRecDepth 100000 in
set_option maxHeartbeats 4000000 in
theorem c_X6_row_bad (E : jD) (h0 : Nat) (h1 : Nat) (x0 : Nat) (g0 : Nat) (h10 : Nat) (y0 : Nat) (h42 : Nat) (fnd : Int) (ask : Int) (r n0 : Int) (hr : jr r) (hn : jr n0) (hb : r < 0 ∨ 4 ≤ r ∨ 48 < n0) : MC E Y_X6_row [.ref h0, .int (iI r), .int (iI n0)] [(h0, jO 6 [.ref h1, .ref x0, .ref g0, .ref h10, .ref y0, .ref h42, .int (iI fnd), .int (iI ask)])] (fun rr N0 => rr = some (.int (iI (-1))) ∧ N0 = [(h0, jO 6 [.ref h1, .ref x0, .ref g0, .ref h10, .ref y0, .ref h42, .int (iI fnd), .int (iI ask)])]) := by
  refine MC.of (by decide) rfl rfl ?_
  refine j_iload_1 1 dX6_row_0 rfl ?_
  refine j_callSi 4 Y_X6_isNoRow [] [_] (c_X6_isNoRow E _ (by first | with_reducible assumption | exact ⟨by omega, by omega⟩)) m_X6_isNoRow wml_X6_55 dX6_row_1 rfl rfl rfl rfl rfl rfl rfl ?_
  refine j_bif_ne 13 7 dX6_row_4 (fun q4 => ?_) (fun q4 => ?_)
  · refine j_iconst 14 dX6_row_13 ?_
    exact j_iret dX6_row_14 rfl rfl ⟨rfl, rfl⟩
  · refine j_iload_2 8 dX6_row_7 rfl ?_
    refine j_bipush 10 dX6_row_8 (by decide +kernel) ?_
    refine j_icmp_le 15 13 dX6_row_10 (by first | with_reducible exact iI_rng _ | with_reducible exact bI_r _ | exact ⟨by omega, by omega⟩) (by first | with_reducible exact iI_rng _ | with_reducible exact bI_r _ | exact ⟨by omega, by omega⟩) (fun q10 => ?_) (fun q10 => ?_)
    · omega
    · refine j_iconst 14 dX6_row_13 ?_
      exact j_iret dX6_row_14 rfl rfl ⟨rfl, rfl⟩

set_option maxRecDepth 100000 in
set_option maxHeartbeats 4000000 in
theorem c_X6_row_no (E : jD) (h0 : Nat) (h1 : Nat) (x0 : Nat) (g0 : Nat) (h10 : Nat) (y0 : Nat) (h42 : Nat) (fnd : Int) (ask : Int) (fm : Nat → Int) (r : Nat) (n0 c : Int) (hr4 : r < 4) (hn : jr n0) (hb : n0 < 0 ∧ c = 3) : MC E Y_X6_row [.ref h0, .int (iI (r : Int)), .int (iI n0)] [(h0, jO 6 [.ref h1, .ref x0, .ref g0, .ref h10, .ref y0, .ref h42, .int (iI fnd), .int (iI ask)]), (h42, jA E 5 (aI fm))] (fun rr N0 => rr = some (.int (iI (rz c))) ∧ N0 = [(h0, jO 6 [.ref h1, .ref x0, .ref g0, .ref h10, .ref y0, .ref h42, .int (iI (rf c fnd)), .int (iI ask)]), (h42, jA E 5 (aI (rm c fm)))]) := by
  refine MC.of (by decide) rfl rfl ?_
  refine j_iload_1 1 dX6_row_0 rfl ?_
  refine j_callSi 4 Y_X6_isNoRow [] [_] (c_X6_isNoRow E _ (by first | with_reducible assumption | exact ⟨by omega, by omega⟩)) m_X6_isNoRow wml_X6_55 dX6_row_1 rfl rfl rfl rfl rfl rfl rfl ?_
  refine j_bif_ne 13 7 dX6_row_4 (fun q4 => ?_) (fun q4 => ?_)
  · omega
  · refine j_iload_2 8 dX6_row_7 rfl ?_
    refine j_bipush 10 dX6_row_8 (by decide +kernel) ?_
    refine j_icmp_le 15 13 dX6_row_10 (by first | with_reducible exact iI_rng _ | with_reducible exact bI_r _ | exact ⟨by omega, by omega⟩) (by first | with_reducible exact iI_rng _ | with_reducible exact bI_r _ | exact ⟨by omega, by omega⟩) (fun q10 => ?_) (fun q10 => ?_)
    · refine j_iload_2 16 dX6_row_15 rfl ?_
      refine j_if_ge 25 19 dX6_row_16 (by first | with_reducible exact iI_rng _ | with_reducible exact bI_r _ | exact ⟨by omega, by omega⟩) (fun q16 => ?_) (fun q16 => ?_)
      · omega
      · refine j_aload_0 20 dX6_row_19 rfl ?_
        refine j_iconst 21 dX6_row_20 ?_
        refine j_callV 24 Y_X6_refuse [0, 1] [_] (c_X6_refuse E _ _ _ _ _ _ _ _ _ _ 3 (by decide)) m_X6_refuse wml_X6_59 dX6_row_21 0 rfl rfl rfl rfl rfl rfl rfl rfl rfl (fun r N h => by obtain ⟨rfl, rfl⟩ := h; rfl) (fun r N h => ?_)
        obtain ⟨rfl, rfl⟩ := h
        obtain rfl : c = 3 := by omega
        exact j_iret dX6_row_24 rfl rfl ⟨rfl, rfl⟩
    · omega

set_option maxRecDepth 100000 in
set_option maxHeartbeats 4000000 in
theorem c_X6_row_ok (E : jD) (h0 : Nat) (h1 : Nat) (x0 : Nat) (g0 : Nat) (h10 : Nat) (y0 : Nat) (h42 : Nat) (b : Nat) (b1 : Nat) (fnd : Int) (ask : Int) (N : Int) (ra : Nat → Option Nat) (rf0 : Nat → Int32) (r n0 : Nat) (hr4 : r < 4) (hra : ra r = some b) (hN : -1 ≤ N ∧ N ≤ 48) (hn : n0 ≤ 48) : MC E Y_X6_row [.ref h0, .int (iI (r : Int)), .int (iI (n0 : Int))] [(h0, jO 6 [.ref h1, .ref x0, .ref g0, .ref h10, .ref y0, .ref h42, .int (iI fnd), .int (iI ask)]), (h1, jR E 2 4 ra), (b, jO 4 [.ref b1, .int (iI N)]), (b1, jA E 48 rf0)] (fun rr N0 => rr = some (.int (iI ((n0 : Int)))) ∧ N0 = [(h0, jO 6 [.ref h1, .ref x0, .ref g0, .ref h10, .ref y0, .ref h42, .int (iI fnd), .int (iI ask)]), (h1, jR E 2 4 ra), (b, jO 4 [.ref b1, .int (iI (n0 : Int))]), (b1, jA E 48 (fa (iI 0) 48 rf0))]) := by
  refine MC.of (by decide) rfl rfl ?_
  refine j_iload_1 1 dX6_row_0 rfl ?_
  refine j_callSi 4 Y_X6_isNoRow [] [_] (c_X6_isNoRow E _ (by first | with_reducible assumption | exact ⟨by omega, by omega⟩)) m_X6_isNoRow wml_X6_55 dX6_row_1 rfl rfl rfl rfl rfl rfl rfl ?_
  refine j_bif_ne 13 7 dX6_row_4 (fun q4 => ?_) (fun q4 => ?_)
  · omega
  · refine j_iload_2 8 dX6_row_7 rfl ?_
    refine j_bipush 10 dX6_row_8 (by decide +kernel) ?_
    refine j_icmp_le 15 13 dX6_row_10 (by first | with_reducible exact iI_rng _ | with_reducible exact bI_r _ | exact ⟨by omega, by omega⟩) (by first | with_reducible exact iI_rng _ | with_reducible exact bI_r _ | exact ⟨by omega, by omega⟩) (fun q10 => ?_) (fun q10 => ?_)
    · refine j_iload_2 16 dX6_row_15 rfl ?_
      refine j_if_ge 25 19 dX6_row_16 (by first | with_reducible exact iI_rng _ | with_reducible exact bI_r _ | exact ⟨by omega, by omega⟩) (fun q16 => ?_) (fun q16 => ?_)
      · refine j_aload_0 26 dX6_row_25 rfl ?_
        refine j_get 29 0 gf_X6_11 dX6_row_26 rfl rfl ?_
        refine j_iload_1 30 dX6_row_29 rfl ?_
        refine j_aald2 31 1 _ b dX6_row_30 rfl rfl rfl (by omega) hra ?_
        refine j_iload_2 32 dX6_row_31 rfl ?_
        refine j_callV 35 Y_X4_becomeZeros [2, 3] [_] (c_X4_becomeZeros E _ _ _ _ _) m_X4_becomeZeros wml_X6_63 dX6_row_32 0 rfl rfl rfl rfl rfl rfl rfl rfl rfl (fun r N h => by obtain ⟨rfl, rfl⟩ := h; rfl) (fun r N h => ?_)
        obtain ⟨rfl, rfl⟩ := h
        refine j_iload_2 36 dX6_row_35 rfl ?_
        exact j_iret dX6_row_36 rfl rfl ⟨rfl, rfl⟩
      · omega
    · omega

set_option maxRecDepth 100000 in
set_option maxHeartbeats 4000000 in
theorem c_X6_lay_ok (E : jD) (h0 : Nat) (h1 : Nat) (x0 : Nat) (g0 : Nat) (h10 : Nat) (y0 : Nat) (h42 : Nat) (b : Nat) (b1 : Nat) (fnd : Int) (ask : Int) (N : Int) (fm : Nat → Int) (ra : Nat → Option Nat) (rf0 : Nat → Int32) (r i : Nat) (v : Int32) (hr4 : r < 4) (hra : ra r = some b) (hN : -1 ≤ N ∧ N ≤ 48) (hi : (i : Int) < N) : MC E Y_X6_lay [.ref h0, .int (iI (r : Int)), .int (iI (i : Int)), .int v] [(h0, jO 6 [.ref h1, .ref x0, .ref g0, .ref h10, .ref y0, .ref h42, .int (iI fnd), .int (iI ask)]), (h42, jA E 5 (aI fm)), (h1, jR E 2 4 ra), (b, jO 4 [.ref b1, .int (iI N)]), (b1, jA E 48 rf0)] (fun rr N0 => rr = some (.int (iI (1))) ∧ N0 = [(h0, jO 6 [.ref h1, .ref x0, .ref g0, .ref h10, .ref y0, .ref h42, .int (iI fnd), .int (iI (rf0 i).toInt)]), (h42, jA E 5 (aI fm)), (h1, jR E 2 4 ra), (b, jO 4 [.ref b1, .int (iI N)]), (b1, jA E 48 (upd rf0 i v))]) := by
  refine MC.of (by decide) rfl rfl ?_
  refine j_aload_0 1 dX6_lay_0 rfl ?_
  refine j_iload_1 2 dX6_lay_1 rfl ?_
  refine j_iload_2 3 dX6_lay_2 rfl ?_
  refine j_callVi 6 Y_X6_refusalOfPlace [0, 1, 2, 3] [_, _] (c_X6_refusalOfPlace_ok E _ _ _ _ _ _ _ _ _ _ _ _ _ _ _ _ hr4 hra hN (by omega)) m_X6_refusalOfPlace wml_X6_67 dX6_lay_3 0 rfl rfl rfl rfl rfl rfl rfl rfl rfl rfl ?_
  refine j_istore 8 (lv' := [(0, _), (1, _), (2, _), (3, _), (4, _)]) dX6_lay_6 rfl ⟨rfl, rfl⟩ ?_
  refine j_iload 10 dX6_lay_8 rfl ?_
  refine j_if_eq 16 13 dX6_lay_10 (by first | with_reducible exact iI_rng _ | with_reducible exact bI_r _ | exact ⟨by omega, by omega⟩) (fun q10 => ?_) (fun q10 => ?_)
  · refine j_aload_0 17 dX6_lay_16 rfl ?_
    refine j_aload_0 18 dX6_lay_17 rfl ?_
    refine j_get 21 0 gf_X6_11 dX6_lay_18 rfl rfl ?_
    refine j_iload_1 22 dX6_lay_21 rfl ?_
    refine j_aald2 23 2 _ b dX6_lay_22 rfl rfl rfl (by omega) hra ?_
    refine j_get 26 3 gf_X6_71 dX6_lay_23 rfl rfl ?_
    refine j_iload_2 27 dX6_lay_26 rfl ?_
    refine j_iald 28 4 _ dX6_lay_27 rfl rfl rfl (by omega) ?_
    refine j_put 31 0 pf_X6_52 dX6_lay_28 rfl ⟨rfl, rfl, rfl⟩ ?_
    refine j_aload_0 32 dX6_lay_31 rfl ?_
    refine j_get 35 0 gf_X6_11 dX6_lay_32 rfl rfl ?_
    refine j_iload_1 36 dX6_lay_35 rfl ?_
    refine j_aald2 37 2 _ b dX6_lay_36 rfl rfl rfl (by omega) hra ?_
    refine j_get 40 3 gf_X6_71 dX6_lay_37 rfl rfl ?_
    refine j_iload_2 41 dX6_lay_40 rfl ?_
    refine j_iload_3 42 dX6_lay_41 rfl ?_
    refine j_iast 43 4 _ dX6_lay_42 rfl rfl rfl (by omega) ?_
    refine j_iconst 44 dX6_lay_43 ?_
    exact j_iret dX6_lay_44 rfl rfl ⟨rfl, rfl⟩
  · omega

set_option maxRecDepth 100000 in
set_option maxHeartbeats 4000000 in
theorem c_X6_at_ok (E : jD) (h0 : Nat) (h1 : Nat) (x0 : Nat) (g0 : Nat) (h10 : Nat) (y0 : Nat) (h42 : Nat) (b : Nat) (b1 : Nat) (fnd : Int) (ask : Int) (N : Int) (fm : Nat → Int) (ra : Nat → Option Nat) (rf0 : Nat → Int32) (r i : Nat) (hr4 : r < 4) (hra : ra r = some b) (hN : -1 ≤ N ∧ N ≤ 48) (hi : (i : Int) < N) : MC E Y_X6_at [.ref h0, .int (iI (r : Int)), .int (iI (i : Int))] [(h0, jO 6 [.ref h1, .ref x0, .ref g0, .ref h10, .ref y0, .ref h42, .int (iI fnd), .int (iI ask)]), (h42, jA E 5 (aI fm)), (h1, jR E 2 4 ra), (b, jO 4 [.ref b1, .int (iI N)]), (b1, jA E 48 rf0)] (fun rr N0 => rr = some (.int (iI (1))) ∧ N0 = [(h0, jO 6 [.ref h1, .ref x0, .ref g0, .ref h10, .ref y0, .ref h42, .int (iI fnd), .int (iI (rf0 i).toInt)]), (h42, jA E 5 (aI fm)), (h1, jR E 2 4 ra), (b, jO 4 [.ref b1, .int (iI N)]), (b1, jA E 48 rf0)]) := by
  refine MC.of (by decide) rfl rfl ?_
  refine j_aload_0 1 dX6_at_0 rfl ?_
  refine j_iload_1 2 dX6_at_1 rfl ?_
  refine j_iload_2 3 dX6_at_2 rfl ?_
  refine j_callVi 6 Y_X6_refusalOfPlace [0, 1, 2, 3] [_, _] (c_X6_refusalOfPlace_ok E _ _ _ _ _ _ _ _ _ _ _ _ _ _ _ _ hr4 hra hN (by omega)) m_X6_refusalOfPlace wml_X6_67 dX6_at_3 0 rfl rfl rfl rfl rfl rfl rfl rfl rfl rfl ?_
  refine j_istore_3 7 (lv' := [(0, _), (1, _), (2, _), (3, _)]) dX6_at_6 rfl ⟨rfl, rfl⟩ ?_
  refine j_iload_3 8 dX6_at_7 rfl ?_
  refine j_if_eq 13 11 dX6_at_8 (by first | with_reducible exact iI_rng _ | with_reducible exact bI_r _ | exact ⟨by omega, by omega⟩) (fun q8 => ?_) (fun q8 => ?_)
  · refine j_aload_0 14 dX6_at_13 rfl ?_
    refine j_aload_0 15 dX6_at_14 rfl ?_
    refine j_get 18 0 gf_X6_11 dX6_at_15 rfl rfl ?_
    refine j_iload_1 19 dX6_at_18 rfl ?_
    refine j_aald2 20 2 _ b dX6_at_19 rfl rfl rfl (by omega) hra ?_
    refine j_get 23 3 gf_X6_71 dX6_at_20 rfl rfl ?_
    refine j_iload_2 24 dX6_at_23 rfl ?_
    refine j_iald 25 4 _ dX6_at_24 rfl rfl rfl (by omega) ?_
    refine j_put 28 0 pf_X6_52 dX6_at_25 rfl ⟨rfl, rfl, rfl⟩ ?_
    refine j_iconst 29 dX6_at_28 ?_
    exact j_iret dX6_at_29 rfl rfl ⟨rfl, rfl⟩
  · omega

set_option maxRecDepth 100000 in
set_option maxHeartbeats 4000000 in
theorem c_X6_tear_bad (E : jD) (h0 : Nat) (h1 : Nat) (x0 : Nat) (g0 : Nat) (h10 : Nat) (y0 : Nat) (h42 : Nat) (fnd : Int) (ask : Int) (r : Int) (hr : jr r) (hb : r < 0 ∨ 4 ≤ r) : MC E Y_X6_tear [.ref h0, .int (iI r)] [(h0, jO 6 [.ref h1, .ref x0, .ref g0, .ref h10, .ref y0, .ref h42, .int (iI fnd), .int (iI ask)])] (fun rr N0 => rr = some (.int (iI (-1))) ∧ N0 = [(h0, jO 6 [.ref h1, .ref x0, .ref g0, .ref h10, .ref y0, .ref h42, .int (iI fnd), .int (iI ask)])]) := by
  refine MC.of (by decide) rfl rfl ?_
  refine j_iload_1 1 dX6_tear_0 rfl ?_
  refine j_callSi 4 Y_X6_isNoRow [] [_] (c_X6_isNoRow E _ (by first | with_reducible assumption | exact ⟨by omega, by omega⟩)) m_X6_isNoRow wml_X6_55 dX6_tear_1 rfl rfl rfl rfl rfl rfl rfl ?_
  refine j_bif_eq 9 7 dX6_tear_4 (fun q4 => ?_) (fun q4 => ?_)
  · omega
  · refine j_iconst 8 dX6_tear_7 ?_
    exact j_iret dX6_tear_8 rfl rfl ⟨rfl, rfl⟩

set_option maxRecDepth 100000 in
set_option maxHeartbeats 4000000 in
theorem c_X6_tear_no (E : jD) (h0 : Nat) (h1 : Nat) (x0 : Nat) (g0 : Nat) (h10 : Nat) (y0 : Nat) (h42 : Nat) (b : Nat) (b1 : Nat) (fnd : Int) (ask : Int) (N : Int) (fm : Nat → Int) (ra : Nat → Option Nat) (r : Nat) (c : Int) (hr4 : r < 4) (hra : ra r = some b) (hN : -1 ≤ N ∧ N ≤ 48) (hc : N < 0 ∧ c = 1) : MC E Y_X6_tear [.ref h0, .int (iI (r : Int))] [(h0, jO 6 [.ref h1, .ref x0, .ref g0, .ref h10, .ref y0, .ref h42, .int (iI fnd), .int (iI ask)]), (h42, jA E 5 (aI fm)), (h1, jR E 2 4 ra), (b, jO 4 [.ref b1, .int (iI N)])] (fun rr N0 => rr = some (.int (iI (rz c))) ∧ N0 = [(h0, jO 6 [.ref h1, .ref x0, .ref g0, .ref h10, .ref y0, .ref h42, .int (iI (rf c fnd)), .int (iI ask)]), (h42, jA E 5 (aI (rm c fm))), (h1, jR E 2 4 ra), (b, jO 4 [.ref b1, .int (iI N)])]) := by
  refine MC.of (by decide) rfl rfl ?_
  refine j_iload_1 1 dX6_tear_0 rfl ?_
  refine j_callSi 4 Y_X6_isNoRow [] [_] (c_X6_isNoRow E _ (by first | with_reducible assumption | exact ⟨by omega, by omega⟩)) m_X6_isNoRow wml_X6_55 dX6_tear_1 rfl rfl rfl rfl rfl rfl rfl ?_
  refine j_bif_eq 9 7 dX6_tear_4 (fun q4 => ?_) (fun q4 => ?_)
  · refine j_aload_0 10 dX6_tear_9 rfl ?_
    refine j_get 13 0 gf_X6_11 dX6_tear_10 rfl rfl ?_
    refine j_iload_1 14 dX6_tear_13 rfl ?_
    refine j_aald2 15 2 _ b dX6_tear_14 rfl rfl rfl (by omega) hra ?_
    refine j_callVi 18 Y_X4_isMissing [3] [] (c_X4_isMissing E _ _ _ (by exact ⟨by omega, by omega⟩)) m_X4_isMissing wml_X6_74 dX6_tear_15 0 rfl rfl rfl rfl rfl rfl rfl rfl rfl rfl ?_
    refine j_bif_eq 27 21 dX6_tear_18 (fun q18 => ?_) (fun q18 => ?_)
    · omega
    · refine j_aload_0 22 dX6_tear_21 rfl ?_
      refine j_iconst 23 dX6_tear_22 ?_
      refine j_callV 26 Y_X6_refuse [0, 1] [_] (c_X6_refuse E _ _ _ _ _ _ _ _ _ _ 1 (by decide)) m_X6_refuse wml_X6_59 dX6_tear_23 0 rfl rfl rfl rfl rfl rfl rfl rfl rfl (fun r N h => by obtain ⟨rfl, rfl⟩ := h; rfl) (fun r N h => ?_)
      obtain ⟨rfl, rfl⟩ := h
      obtain rfl : c = 1 := by omega
      exact j_iret dX6_tear_26 rfl rfl ⟨rfl, rfl⟩
  · omega

set_option maxRecDepth 100000 in
set_option maxHeartbeats 4000000 in
theorem c_X6_tear_ok (E : jD) (h0 : Nat) (h1 : Nat) (x0 : Nat) (g0 : Nat) (h10 : Nat) (y0 : Nat) (h42 : Nat) (b : Nat) (b1 : Nat) (fnd : Int) (ask : Int) (N : Int) (ra : Nat → Option Nat) (r : Nat) (hr4 : r < 4) (hra : ra r = some b) (hN : -1 ≤ N ∧ N ≤ 48) (hc : 0 ≤ N) : MC E Y_X6_tear [.ref h0, .int (iI (r : Int))] [(h0, jO 6 [.ref h1, .ref x0, .ref g0, .ref h10, .ref y0, .ref h42, .int (iI fnd), .int (iI ask)]), (h1, jR E 2 4 ra), (b, jO 4 [.ref b1, .int (iI N)])] (fun rr N0 => rr = some (.int (iI (N))) ∧ N0 = [(h0, jO 6 [.ref h1, .ref x0, .ref g0, .ref h10, .ref y0, .ref h42, .int (iI fnd), .int (iI ask)]), (h1, jR E 2 4 ra), (b, jO 4 [.ref b1, .int (iI (-1))])]) := by
  refine MC.of (by decide) rfl rfl ?_
  refine j_iload_1 1 dX6_tear_0 rfl ?_
  refine j_callSi 4 Y_X6_isNoRow [] [_] (c_X6_isNoRow E _ (by first | with_reducible assumption | exact ⟨by omega, by omega⟩)) m_X6_isNoRow wml_X6_55 dX6_tear_1 rfl rfl rfl rfl rfl rfl rfl ?_
  refine j_bif_eq 9 7 dX6_tear_4 (fun q4 => ?_) (fun q4 => ?_)
  · refine j_aload_0 10 dX6_tear_9 rfl ?_
    refine j_get 13 0 gf_X6_11 dX6_tear_10 rfl rfl ?_
    refine j_iload_1 14 dX6_tear_13 rfl ?_
    refine j_aald2 15 1 _ b dX6_tear_14 rfl rfl rfl (by omega) hra ?_
    refine j_callVi 18 Y_X4_isMissing [2] [] (c_X4_isMissing E _ _ _ (by exact ⟨by omega, by omega⟩)) m_X4_isMissing wml_X6_74 dX6_tear_15 0 rfl rfl rfl rfl rfl rfl rfl rfl rfl rfl ?_
    refine j_bif_eq 27 21 dX6_tear_18 (fun q18 => ?_) (fun q18 => ?_)
    · refine j_aload_0 28 dX6_tear_27 rfl ?_
      refine j_get 31 0 gf_X6_11 dX6_tear_28 rfl rfl ?_
      refine j_iload_1 32 dX6_tear_31 rfl ?_
      refine j_aald2 33 1 _ b dX6_tear_32 rfl rfl rfl (by omega) hra ?_
      refine j_get 36 2 gf_X6_78 dX6_tear_33 rfl rfl ?_
      refine j_istore_2 37 (lv' := [(0, _), (1, _), (2, _)]) dX6_tear_36 rfl ⟨rfl, rfl⟩ ?_
      refine j_aload_0 38 dX6_tear_37 rfl ?_
      refine j_get 41 0 gf_X6_11 dX6_tear_38 rfl rfl ?_
      refine j_iload_1 42 dX6_tear_41 rfl ?_
      refine j_aald2 43 1 _ b dX6_tear_42 rfl rfl rfl (by omega) hra ?_
      refine j_iconst 44 dX6_tear_43 ?_
      refine j_put 47 2 pf_X6_78 dX6_tear_44 rfl ⟨rfl, rfl, rfl⟩ ?_
      refine j_iload_2 48 dX6_tear_47 rfl ?_
      exact j_iret dX6_tear_48 rfl rfl ⟨rfl, rfl⟩
    · omega
  · omega

set_option maxRecDepth 100000 in
set_option maxHeartbeats 4000000 in
theorem c_X6_copy_bad (E : jD) (h0 : Nat) (h1 : Nat) (x0 : Nat) (g0 : Nat) (h10 : Nat) (y0 : Nat) (h42 : Nat) (fnd : Int) (ask : Int) (r i t j m : Int) (hr : jr r) (ht : jr t) (hb : r < 0 ∨ 4 ≤ r ∨ t < 0 ∨ 4 ≤ t) : MC E Y_X6_copy [.ref h0, .int (iI r), .int (iI i), .int (iI t), .int (iI j), .int (iI m)] [(h0, jO 6 [.ref h1, .ref x0, .ref g0, .ref h10, .ref y0, .ref h42, .int (iI fnd), .int (iI ask)])] (fun rr N0 => rr = some (.int (iI (-1))) ∧ N0 = [(h0, jO 6 [.ref h1, .ref x0, .ref g0, .ref h10, .ref y0, .ref h42, .int (iI fnd), .int (iI ask)])]) := by
  refine MC.of (by decide) rfl rfl ?_
  refine j_iload_1 1 dX6_copy_0 rfl ?_
  refine j_callSi 4 Y_X6_isNoRow [] [_] (c_X6_isNoRow E _ (by first | with_reducible assumption | exact ⟨by omega, by omega⟩)) m_X6_isNoRow wml_X6_55 dX6_copy_1 rfl rfl rfl rfl rfl rfl rfl ?_
  refine j_bif_ne 14 7 dX6_copy_4 (fun q4 => ?_) (fun q4 => ?_)
  · refine j_iconst 15 dX6_copy_14 ?_
    exact j_iret dX6_copy_15 rfl rfl ⟨rfl, rfl⟩
  · refine j_iload_3 8 dX6_copy_7 rfl ?_
    refine j_callSi 11 Y_X6_isNoRow [] [_] (c_X6_isNoRow E _ (by first | with_reducible assumption | exact ⟨by omega, by omega⟩)) m_X6_isNoRow wml_X6_55 dX6_copy_8 rfl rfl rfl rfl rfl rfl rfl ?_
    refine j_bif_eq 16 14 dX6_copy_11 (fun q11 => ?_) (fun q11 => ?_)
    · omega
    · refine j_iconst 15 dX6_copy_14 ?_
      exact j_iret dX6_copy_15 rfl rfl ⟨rfl, rfl⟩

set_option maxRecDepth 100000 in
set_option maxHeartbeats 4000000 in
theorem c_X6_copy_nod (E : jD) (h0 : Nat) (h1 : Nat) (x0 : Nat) (g0 : Nat) (h10 : Nat) (y0 : Nat) (h42 : Nat) (b : Nat) (b1 : Nat) (e : Nat) (e1 : Nat) (fnd : Int) (ask : Int) (N : Int) (N2 : Int) (fm : Nat → Int) (ra : Nat → Option Nat) (r t : Nat) (i j m c : Int) (hr4 : r < 4) (hra : ra r = some b) (hN : -1 ≤ N ∧ N ≤ 48) (ht4 : t < 4) (hta : ra t = some e) (hN2 : -1 ≤ N2 ∧ N2 ≤ 48) (hi : jr i) (hj : jr j) (hm : jr m) (hc : ((N < 0 ∨ N2 < 0) ∧ c = 1) ∨ (0 ≤ N ∧ 0 ≤ N2 ∧ (i < 0 ∨ m < 0 ∨ N - i < m ∨ j < 0 ∨ N2 - j < m) ∧ c = 2)) : MC E Y_X6_copy [.ref h0, .int (iI (r : Int)), .int (iI i), .int (iI (t : Int)), .int (iI j), .int (iI m)] [(h0, jO 6 [.ref h1, .ref x0, .ref g0, .ref h10, .ref y0, .ref h42, .int (iI fnd), .int (iI ask)]), (h42, jA E 5 (aI fm)), (h1, jR E 2 4 ra), (b, jO 4 [.ref b1, .int (iI N)]), (e, jO 4 [.ref e1, .int (iI N2)])] (fun rr N0 => rr = some (.int (iI (rz c))) ∧ N0 = [(h0, jO 6 [.ref h1, .ref x0, .ref g0, .ref h10, .ref y0, .ref h42, .int (iI (rf c fnd)), .int (iI ask)]), (h42, jA E 5 (aI (rm c fm))), (h1, jR E 2 4 ra), (b, jO 4 [.ref b1, .int (iI N)]), (e, jO 4 [.ref e1, .int (iI N2)])]) := by
  refine MC.of (by decide) rfl rfl ?_
  refine j_iload_1 1 dX6_copy_0 rfl ?_
  refine j_callSi 4 Y_X6_isNoRow [] [_] (c_X6_isNoRow E _ (by first | with_reducible assumption | exact ⟨by omega, by omega⟩)) m_X6_isNoRow wml_X6_55 dX6_copy_1 rfl rfl rfl rfl rfl rfl rfl ?_
  refine j_bif_ne 14 7 dX6_copy_4 (fun q4 => ?_) (fun q4 => ?_)
  · omega
  · refine j_iload_3 8 dX6_copy_7 rfl ?_
    refine j_callSi 11 Y_X6_isNoRow [] [_] (c_X6_isNoRow E _ (by first | with_reducible assumption | exact ⟨by omega, by omega⟩)) m_X6_isNoRow wml_X6_55 dX6_copy_8 rfl rfl rfl rfl rfl rfl rfl ?_
    refine j_bif_eq 16 14 dX6_copy_11 (fun q11 => ?_) (fun q11 => ?_)
    · refine j_aload_0 17 dX6_copy_16 rfl ?_
      refine j_get 20 0 gf_X6_11 dX6_copy_17 rfl rfl ?_
      refine j_iload_1 21 dX6_copy_20 rfl ?_
      refine j_aald2 22 2 _ b dX6_copy_21 rfl rfl rfl (by omega) hra ?_
      refine j_callVi 25 Y_X4_isMissing [3] [] (c_X4_isMissing E _ _ _ (by exact ⟨by omega, by omega⟩)) m_X4_isMissing wml_X6_74 dX6_copy_22 0 rfl rfl rfl rfl rfl rfl rfl rfl rfl rfl ?_
      refine j_bif_ne 40 28 dX6_copy_25 (fun q25 => ?_) (fun q25 => ?_)
      · refine j_aload_0 41 dX6_copy_40 rfl ?_
        refine j_iconst 42 dX6_copy_41 ?_
        refine j_callV 45 Y_X6_refuse [0, 1] [_] (c_X6_refuse E _ _ _ _ _ _ _ _ _ _ 1 (by decide)) m_X6_refuse wml_X6_59 dX6_copy_42 0 rfl rfl rfl rfl rfl rfl rfl rfl rfl (fun r N h => by obtain ⟨rfl, rfl⟩ := h; rfl) (fun r N h => ?_)
        obtain ⟨rfl, rfl⟩ := h
        obtain rfl : c = 1 := by omega
        exact j_iret dX6_copy_45 rfl rfl ⟨rfl, rfl⟩
      · refine j_aload_0 29 dX6_copy_28 rfl ?_
        refine j_get 32 0 gf_X6_11 dX6_copy_29 rfl rfl ?_
        refine j_iload_3 33 dX6_copy_32 rfl ?_
        refine j_aald2 34 2 _ e dX6_copy_33 rfl rfl rfl (by omega) hta ?_
        refine j_callVi 37 Y_X4_isMissing [4] [] (c_X4_isMissing E _ _ _ (by exact ⟨by omega, by omega⟩)) m_X4_isMissing wml_X6_74 dX6_copy_34 0 rfl rfl rfl rfl rfl rfl rfl rfl rfl rfl ?_
        refine j_bif_eq 46 40 dX6_copy_37 (fun q37 => ?_) (fun q37 => ?_)
        · refine j_aload_0 47 dX6_copy_46 rfl ?_
          refine j_get 50 0 gf_X6_11 dX6_copy_47 rfl rfl ?_
          refine j_iload_1 51 dX6_copy_50 rfl ?_
          refine j_aald2 52 2 _ b dX6_copy_51 rfl rfl rfl (by omega) hra ?_
          refine j_iload_2 53 dX6_copy_52 rfl ?_
          refine j_iload 55 dX6_copy_53 rfl ?_
          refine j_callVi 58 Y_X4_lacksSome [3] [_, _] (c_X4_lacksSome E _ _ _ _ _ hN (by assumption) (by assumption)) m_X4_lacksSome wml_X6_81 dX6_copy_55 0 rfl rfl rfl rfl rfl rfl rfl rfl rfl rfl ?_
          refine j_bif_ne 77 61 dX6_copy_58 (fun q58 => ?_) (fun q58 => ?_)
          · refine j_aload_0 78 dX6_copy_77 rfl ?_
            refine j_iconst 79 dX6_copy_78 ?_
            refine j_callV 82 Y_X6_refuse [0, 1] [_] (c_X6_refuse E _ _ _ _ _ _ _ _ _ _ 2 (by decide)) m_X6_refuse wml_X6_59 dX6_copy_79 0 rfl rfl rfl rfl rfl rfl rfl rfl rfl (fun r N h => by obtain ⟨rfl, rfl⟩ := h; rfl) (fun r N h => ?_)
            obtain ⟨rfl, rfl⟩ := h
            obtain rfl : c = 2 := by omega
            exact j_iret dX6_copy_82 rfl rfl ⟨rfl, rfl⟩
          · refine j_aload_0 62 dX6_copy_61 rfl ?_
            refine j_get 65 0 gf_X6_11 dX6_copy_62 rfl rfl ?_
            refine j_iload_3 66 dX6_copy_65 rfl ?_
            refine j_aald2 67 2 _ e dX6_copy_66 rfl rfl rfl (by omega) hta ?_
            refine j_iload 69 dX6_copy_67 rfl ?_
            refine j_iload 71 dX6_copy_69 rfl ?_
            refine j_callVi 74 Y_X4_lacksSome [4] [_, _] (c_X4_lacksSome E _ _ _ _ _ hN2 (by assumption) (by assumption)) m_X4_lacksSome wml_X6_81 dX6_copy_71 0 rfl rfl rfl rfl rfl rfl rfl rfl rfl rfl ?_
            refine j_bif_eq 83 77 dX6_copy_74 (fun q74 => ?_) (fun q74 => ?_)
            · omega
            · refine j_aload_0 78 dX6_copy_77 rfl ?_
              refine j_iconst 79 dX6_copy_78 ?_
              refine j_callV 82 Y_X6_refuse [0, 1] [_] (c_X6_refuse E _ _ _ _ _ _ _ _ _ _ 2 (by decide)) m_X6_refuse wml_X6_59 dX6_copy_79 0 rfl rfl rfl rfl rfl rfl rfl rfl rfl (fun r N h => by obtain ⟨rfl, rfl⟩ := h; rfl) (fun r N h => ?_)
              obtain ⟨rfl, rfl⟩ := h
              obtain rfl : c = 2 := by omega
              exact j_iret dX6_copy_82 rfl rfl ⟨rfl, rfl⟩
        · refine j_aload_0 41 dX6_copy_40 rfl ?_
          refine j_iconst 42 dX6_copy_41 ?_
          refine j_callV 45 Y_X6_refuse [0, 1] [_] (c_X6_refuse E _ _ _ _ _ _ _ _ _ _ 1 (by decide)) m_X6_refuse wml_X6_59 dX6_copy_42 0 rfl rfl rfl rfl rfl rfl rfl rfl rfl (fun r N h => by obtain ⟨rfl, rfl⟩ := h; rfl) (fun r N h => ?_)
          obtain ⟨rfl, rfl⟩ := h
          obtain rfl : c = 1 := by omega
          exact j_iret dX6_copy_45 rfl rfl ⟨rfl, rfl⟩
    · omega

set_option maxRecDepth 100000 in
set_option maxHeartbeats 4000000 in
theorem c_X6_copy_okd (E : jD) (h0 : Nat) (h1 : Nat) (x0 : Nat) (g0 : Nat) (h10 : Nat) (y0 : Nat) (h42 : Nat) (b : Nat) (b1 : Nat) (e : Nat) (e1 : Nat) (fnd : Int) (ask : Int) (N : Int) (N2 : Int) (ra : Nat → Option Nat) (rf0 : Nat → Int32) (rf2 : Nat → Int32) (r t i j m : Nat) (hr4 : r < 4) (hra : ra r = some b) (hN : -1 ≤ N ∧ N ≤ 48) (ht4 : t < 4) (hta : ra t = some e) (hN2 : -1 ≤ N2 ∧ N2 ≤ 48) (hA1 : (i : Int) + m ≤ N) (hA2 : (j : Int) + m ≤ N2) : MC E Y_X6_copy [.ref h0, .int (iI (r : Int)), .int (iI (i : Int)), .int (iI (t : Int)), .int (iI (j : Int)), .int (iI (m : Int))] [(h0, jO 6 [.ref h1, .ref x0, .ref g0, .ref h10, .ref y0, .ref h42, .int (iI fnd), .int (iI ask)]), (h1, jR E 2 4 ra), (b, jO 4 [.ref b1, .int (iI N)]), (b1, jA E 48 rf0), (e, jO 4 [.ref e1, .int (iI N2)]), (e1, jA E 48 rf2)] (fun rr N0 => rr = some (.int (iI ((m : Int)))) ∧ N0 = [(h0, jO 6 [.ref h1, .ref x0, .ref g0, .ref h10, .ref y0, .ref h42, .int (iI fnd), .int (iI ask)]), (h1, jR E 2 4 ra), (b, jO 4 [.ref b1, .int (iI N)]), (b1, jA E 48 rf0), (e, jO 4 [.ref e1, .int (iI N2)]), (e1, jA E 48 (va_cpy rf0 rf2 i j m))]) := by
  refine MC.of (by decide) rfl rfl ?_
  refine j_iload_1 1 dX6_copy_0 rfl ?_
  refine j_callSi 4 Y_X6_isNoRow [] [_] (c_X6_isNoRow E _ (by first | with_reducible assumption | exact ⟨by omega, by omega⟩)) m_X6_isNoRow wml_X6_55 dX6_copy_1 rfl rfl rfl rfl rfl rfl rfl ?_
  refine j_bif_ne 14 7 dX6_copy_4 (fun q4 => ?_) (fun q4 => ?_)
  · omega
  · refine j_iload_3 8 dX6_copy_7 rfl ?_
    refine j_callSi 11 Y_X6_isNoRow [] [_] (c_X6_isNoRow E _ (by first | with_reducible assumption | exact ⟨by omega, by omega⟩)) m_X6_isNoRow wml_X6_55 dX6_copy_8 rfl rfl rfl rfl rfl rfl rfl ?_
    refine j_bif_eq 16 14 dX6_copy_11 (fun q11 => ?_) (fun q11 => ?_)
    · refine j_aload_0 17 dX6_copy_16 rfl ?_
      refine j_get 20 0 gf_X6_11 dX6_copy_17 rfl rfl ?_
      refine j_iload_1 21 dX6_copy_20 rfl ?_
      refine j_aald2 22 1 _ b dX6_copy_21 rfl rfl rfl (by omega) hra ?_
      refine j_callVi 25 Y_X4_isMissing [2] [] (c_X4_isMissing E _ _ _ (by exact ⟨by omega, by omega⟩)) m_X4_isMissing wml_X6_74 dX6_copy_22 0 rfl rfl rfl rfl rfl rfl rfl rfl rfl rfl ?_
      refine j_bif_ne 40 28 dX6_copy_25 (fun q25 => ?_) (fun q25 => ?_)
      · omega
      · refine j_aload_0 29 dX6_copy_28 rfl ?_
        refine j_get 32 0 gf_X6_11 dX6_copy_29 rfl rfl ?_
        refine j_iload_3 33 dX6_copy_32 rfl ?_
        refine j_aald2 34 1 _ e dX6_copy_33 rfl rfl rfl (by omega) hta ?_
        refine j_callVi 37 Y_X4_isMissing [4] [] (c_X4_isMissing E _ _ _ (by exact ⟨by omega, by omega⟩)) m_X4_isMissing wml_X6_74 dX6_copy_34 0 rfl rfl rfl rfl rfl rfl rfl rfl rfl rfl ?_
        refine j_bif_eq 46 40 dX6_copy_37 (fun q37 => ?_) (fun q37 => ?_)
        · refine j_aload_0 47 dX6_copy_46 rfl ?_
          refine j_get 50 0 gf_X6_11 dX6_copy_47 rfl rfl ?_
          refine j_iload_1 51 dX6_copy_50 rfl ?_
          refine j_aald2 52 1 _ b dX6_copy_51 rfl rfl rfl (by omega) hra ?_
          refine j_iload_2 53 dX6_copy_52 rfl ?_
          refine j_iload 55 dX6_copy_53 rfl ?_
          refine j_callVi 58 Y_X4_lacksSome [2] [_, _] (c_X4_lacksSome E _ _ _ _ _ hN (by exact ⟨by omega, by omega⟩) (by exact ⟨by omega, by omega⟩)) m_X4_lacksSome wml_X6_81 dX6_copy_55 0 rfl rfl rfl rfl rfl rfl rfl rfl rfl rfl ?_
          refine j_bif_ne 77 61 dX6_copy_58 (fun q58 => ?_) (fun q58 => ?_)
          · omega
          · refine j_aload_0 62 dX6_copy_61 rfl ?_
            refine j_get 65 0 gf_X6_11 dX6_copy_62 rfl rfl ?_
            refine j_iload_3 66 dX6_copy_65 rfl ?_
            refine j_aald2 67 1 _ e dX6_copy_66 rfl rfl rfl (by omega) hta ?_
            refine j_iload 69 dX6_copy_67 rfl ?_
            refine j_iload 71 dX6_copy_69 rfl ?_
            refine j_callVi 74 Y_X4_lacksSome [4] [_, _] (c_X4_lacksSome E _ _ _ _ _ hN2 (by exact ⟨by omega, by omega⟩) (by exact ⟨by omega, by omega⟩)) m_X4_lacksSome wml_X6_81 dX6_copy_71 0 rfl rfl rfl rfl rfl rfl rfl rfl rfl rfl ?_
            refine j_bif_eq 83 77 dX6_copy_74 (fun q74 => ?_) (fun q74 => ?_)
            · refine j_aload_0 84 dX6_copy_83 rfl ?_
              refine j_get 87 0 gf_X6_11 dX6_copy_84 rfl rfl ?_
              refine j_iload_1 88 dX6_copy_87 rfl ?_
              refine j_aald2 89 1 _ b dX6_copy_88 rfl rfl rfl (by omega) hra ?_
              refine j_get 92 2 gf_X6_71 dX6_copy_89 rfl rfl ?_
              refine j_iload_2 93 dX6_copy_92 rfl ?_
              refine j_aload_0 94 dX6_copy_93 rfl ?_
              refine j_get 97 0 gf_X6_11 dX6_copy_94 rfl rfl ?_
              refine j_iload_3 98 dX6_copy_97 rfl ?_
              refine j_aald2 99 1 _ e dX6_copy_98 rfl rfl rfl (by omega) hta ?_
              refine j_get 102 4 gf_X6_71 dX6_copy_99 rfl rfl ?_
              refine j_iload 104 dX6_copy_102 rfl ?_
              refine j_iload 106 dX6_copy_104 rfl ?_
              refine j_copy 109 3 5 i j m wml_X6_85 dX6_copy_106 rfl rfl rfl rfl rfl rfl (by omega) (by omega) rfl ?_
              refine j_iload 111 dX6_copy_109 rfl ?_
              exact j_iret dX6_copy_111 rfl rfl ⟨rfl, rfl⟩
            · omega
        · omega
    · omega

set_option maxRecDepth 100000 in
set_option maxHeartbeats 4000000 in
theorem c_X6_copy_nos (E : jD) (h0 : Nat) (h1 : Nat) (x0 : Nat) (g0 : Nat) (h10 : Nat) (y0 : Nat) (h42 : Nat) (b : Nat) (b1 : Nat) (fnd : Int) (ask : Int) (N : Int) (fm : Nat → Int) (ra : Nat → Option Nat) (r t : Nat) (i j m c : Int) (hr4 : r < 4) (hra : ra r = some b) (hN : -1 ≤ N ∧ N ≤ 48) (ht4 : t < 4) (hta : ra t = some b) (hi : jr i) (hj : jr j) (hm : jr m) (hc : ((N < 0 ∨ N < 0) ∧ c = 1) ∨ (0 ≤ N ∧ 0 ≤ N ∧ (i < 0 ∨ m < 0 ∨ N - i < m ∨ j < 0 ∨ N - j < m) ∧ c = 2)) : MC E Y_X6_copy [.ref h0, .int (iI (r : Int)), .int (iI i), .int (iI (t : Int)), .int (iI j), .int (iI m)] [(h0, jO 6 [.ref h1, .ref x0, .ref g0, .ref h10, .ref y0, .ref h42, .int (iI fnd), .int (iI ask)]), (h42, jA E 5 (aI fm)), (h1, jR E 2 4 ra), (b, jO 4 [.ref b1, .int (iI N)])] (fun rr N0 => rr = some (.int (iI (rz c))) ∧ N0 = [(h0, jO 6 [.ref h1, .ref x0, .ref g0, .ref h10, .ref y0, .ref h42, .int (iI (rf c fnd)), .int (iI ask)]), (h42, jA E 5 (aI (rm c fm))), (h1, jR E 2 4 ra), (b, jO 4 [.ref b1, .int (iI N)])]) := by
  refine MC.of (by decide) rfl rfl ?_
  refine j_iload_1 1 dX6_copy_0 rfl ?_
  refine j_callSi 4 Y_X6_isNoRow [] [_] (c_X6_isNoRow E _ (by first | with_reducible assumption | exact ⟨by omega, by omega⟩)) m_X6_isNoRow wml_X6_55 dX6_copy_1 rfl rfl rfl rfl rfl rfl rfl ?_
  refine j_bif_ne 14 7 dX6_copy_4 (fun q4 => ?_) (fun q4 => ?_)
  · omega
  · refine j_iload_3 8 dX6_copy_7 rfl ?_
    refine j_callSi 11 Y_X6_isNoRow [] [_] (c_X6_isNoRow E _ (by first | with_reducible assumption | exact ⟨by omega, by omega⟩)) m_X6_isNoRow wml_X6_55 dX6_copy_8 rfl rfl rfl rfl rfl rfl rfl ?_
    refine j_bif_eq 16 14 dX6_copy_11 (fun q11 => ?_) (fun q11 => ?_)
    · refine j_aload_0 17 dX6_copy_16 rfl ?_
      refine j_get 20 0 gf_X6_11 dX6_copy_17 rfl rfl ?_
      refine j_iload_1 21 dX6_copy_20 rfl ?_
      refine j_aald2 22 2 _ b dX6_copy_21 rfl rfl rfl (by omega) hra ?_
      refine j_callVi 25 Y_X4_isMissing [3] [] (c_X4_isMissing E _ _ _ (by exact ⟨by omega, by omega⟩)) m_X4_isMissing wml_X6_74 dX6_copy_22 0 rfl rfl rfl rfl rfl rfl rfl rfl rfl rfl ?_
      refine j_bif_ne 40 28 dX6_copy_25 (fun q25 => ?_) (fun q25 => ?_)
      · refine j_aload_0 41 dX6_copy_40 rfl ?_
        refine j_iconst 42 dX6_copy_41 ?_
        refine j_callV 45 Y_X6_refuse [0, 1] [_] (c_X6_refuse E _ _ _ _ _ _ _ _ _ _ 1 (by decide)) m_X6_refuse wml_X6_59 dX6_copy_42 0 rfl rfl rfl rfl rfl rfl rfl rfl rfl (fun r N h => by obtain ⟨rfl, rfl⟩ := h; rfl) (fun r N h => ?_)
        obtain ⟨rfl, rfl⟩ := h
        obtain rfl : c = 1 := by omega
        exact j_iret dX6_copy_45 rfl rfl ⟨rfl, rfl⟩
      · refine j_aload_0 29 dX6_copy_28 rfl ?_
        refine j_get 32 0 gf_X6_11 dX6_copy_29 rfl rfl ?_
        refine j_iload_3 33 dX6_copy_32 rfl ?_
        refine j_aald2 34 2 _ b dX6_copy_33 rfl rfl rfl (by omega) hta ?_
        refine j_callVi 37 Y_X4_isMissing [3] [] (c_X4_isMissing E _ _ _ (by exact ⟨by omega, by omega⟩)) m_X4_isMissing wml_X6_74 dX6_copy_34 0 rfl rfl rfl rfl rfl rfl rfl rfl rfl rfl ?_
        refine j_bif_eq 46 40 dX6_copy_37 (fun q37 => ?_) (fun q37 => ?_)
        · refine j_aload_0 47 dX6_copy_46 rfl ?_
          refine j_get 50 0 gf_X6_11 dX6_copy_47 rfl rfl ?_
          refine j_iload_1 51 dX6_copy_50 rfl ?_
          refine j_aald2 52 2 _ b dX6_copy_51 rfl rfl rfl (by omega) hra ?_
          refine j_iload_2 53 dX6_copy_52 rfl ?_
          refine j_iload 55 dX6_copy_53 rfl ?_
          refine j_callVi 58 Y_X4_lacksSome [3] [_, _] (c_X4_lacksSome E _ _ _ _ _ hN (by assumption) (by assumption)) m_X4_lacksSome wml_X6_81 dX6_copy_55 0 rfl rfl rfl rfl rfl rfl rfl rfl rfl rfl ?_
          refine j_bif_ne 77 61 dX6_copy_58 (fun q58 => ?_) (fun q58 => ?_)
          · refine j_aload_0 78 dX6_copy_77 rfl ?_
            refine j_iconst 79 dX6_copy_78 ?_
            refine j_callV 82 Y_X6_refuse [0, 1] [_] (c_X6_refuse E _ _ _ _ _ _ _ _ _ _ 2 (by decide)) m_X6_refuse wml_X6_59 dX6_copy_79 0 rfl rfl rfl rfl rfl rfl rfl rfl rfl (fun r N h => by obtain ⟨rfl, rfl⟩ := h; rfl) (fun r N h => ?_)
            obtain ⟨rfl, rfl⟩ := h
            obtain rfl : c = 2 := by omega
            exact j_iret dX6_copy_82 rfl rfl ⟨rfl, rfl⟩
          · refine j_aload_0 62 dX6_copy_61 rfl ?_
            refine j_get 65 0 gf_X6_11 dX6_copy_62 rfl rfl ?_
            refine j_iload_3 66 dX6_copy_65 rfl ?_
            refine j_aald2 67 2 _ b dX6_copy_66 rfl rfl rfl (by omega) hta ?_
            refine j_iload 69 dX6_copy_67 rfl ?_
            refine j_iload 71 dX6_copy_69 rfl ?_
            refine j_callVi 74 Y_X4_lacksSome [3] [_, _] (c_X4_lacksSome E _ _ _ _ _ hN (by assumption) (by assumption)) m_X4_lacksSome wml_X6_81 dX6_copy_71 0 rfl rfl rfl rfl rfl rfl rfl rfl rfl rfl ?_
            refine j_bif_eq 83 77 dX6_copy_74 (fun q74 => ?_) (fun q74 => ?_)
            · omega
            · refine j_aload_0 78 dX6_copy_77 rfl ?_
              refine j_iconst 79 dX6_copy_78 ?_
              refine j_callV 82 Y_X6_refuse [0, 1] [_] (c_X6_refuse E _ _ _ _ _ _ _ _ _ _ 2 (by decide)) m_X6_refuse wml_X6_59 dX6_copy_79 0 rfl rfl rfl rfl rfl rfl rfl rfl rfl (fun r N h => by obtain ⟨rfl, rfl⟩ := h; rfl) (fun r N h => ?_)
              obtain ⟨rfl, rfl⟩ := h
              obtain rfl : c = 2 := by omega
              exact j_iret dX6_copy_82 rfl rfl ⟨rfl, rfl⟩
        · refine j_aload_0 41 dX6_copy_40 rfl ?_
          refine j_iconst 42 dX6_copy_41 ?_
          refine j_callV 45 Y_X6_refuse [0, 1] [_] (c_X6_refuse E _ _ _ _ _ _ _ _ _ _ 1 (by decide)) m_X6_refuse wml_X6_59 dX6_copy_42 0 rfl rfl rfl rfl rfl rfl rfl rfl rfl (fun r N h => by obtain ⟨rfl, rfl⟩ := h; rfl) (fun r N h => ?_)
          obtain ⟨rfl, rfl⟩ := h
          obtain rfl : c = 1 := by omega
          exact j_iret dX6_copy_45 rfl rfl ⟨rfl, rfl⟩
    · omega

set_option maxRecDepth 100000 in
set_option maxHeartbeats 4000000 in
theorem c_X6_copy_oks (E : jD) (h0 : Nat) (h1 : Nat) (x0 : Nat) (g0 : Nat) (h10 : Nat) (y0 : Nat) (h42 : Nat) (b : Nat) (b1 : Nat) (fnd : Int) (ask : Int) (N : Int) (ra : Nat → Option Nat) (rf0 : Nat → Int32) (r t i j m : Nat) (hr4 : r < 4) (hra : ra r = some b) (hN : -1 ≤ N ∧ N ≤ 48) (ht4 : t < 4) (hta : ra t = some b) (hA1 : (i : Int) + m ≤ N) (hA2 : (j : Int) + m ≤ N) : MC E Y_X6_copy [.ref h0, .int (iI (r : Int)), .int (iI (i : Int)), .int (iI (t : Int)), .int (iI (j : Int)), .int (iI (m : Int))] [(h0, jO 6 [.ref h1, .ref x0, .ref g0, .ref h10, .ref y0, .ref h42, .int (iI fnd), .int (iI ask)]), (h1, jR E 2 4 ra), (b, jO 4 [.ref b1, .int (iI N)]), (b1, jA E 48 rf0)] (fun rr N0 => rr = some (.int (iI ((m : Int)))) ∧ N0 = [(h0, jO 6 [.ref h1, .ref x0, .ref g0, .ref h10, .ref y0, .ref h42, .int (iI fnd), .int (iI ask)]), (h1, jR E 2 4 ra), (b, jO 4 [.ref b1, .int (iI N)]), (b1, jA E 48 (va_cpy rf0 rf0 i j m))]) := by
  refine MC.of (by decide) rfl rfl ?_
  refine j_iload_1 1 dX6_copy_0 rfl ?_
  refine j_callSi 4 Y_X6_isNoRow [] [_] (c_X6_isNoRow E _ (by first | with_reducible assumption | exact ⟨by omega, by omega⟩)) m_X6_isNoRow wml_X6_55 dX6_copy_1 rfl rfl rfl rfl rfl rfl rfl ?_
  refine j_bif_ne 14 7 dX6_copy_4 (fun q4 => ?_) (fun q4 => ?_)
  · omega
  · refine j_iload_3 8 dX6_copy_7 rfl ?_
    refine j_callSi 11 Y_X6_isNoRow [] [_] (c_X6_isNoRow E _ (by first | with_reducible assumption | exact ⟨by omega, by omega⟩)) m_X6_isNoRow wml_X6_55 dX6_copy_8 rfl rfl rfl rfl rfl rfl rfl ?_
    refine j_bif_eq 16 14 dX6_copy_11 (fun q11 => ?_) (fun q11 => ?_)
    · refine j_aload_0 17 dX6_copy_16 rfl ?_
      refine j_get 20 0 gf_X6_11 dX6_copy_17 rfl rfl ?_
      refine j_iload_1 21 dX6_copy_20 rfl ?_
      refine j_aald2 22 1 _ b dX6_copy_21 rfl rfl rfl (by omega) hra ?_
      refine j_callVi 25 Y_X4_isMissing [2] [] (c_X4_isMissing E _ _ _ (by exact ⟨by omega, by omega⟩)) m_X4_isMissing wml_X6_74 dX6_copy_22 0 rfl rfl rfl rfl rfl rfl rfl rfl rfl rfl ?_
      refine j_bif_ne 40 28 dX6_copy_25 (fun q25 => ?_) (fun q25 => ?_)
      · omega
      · refine j_aload_0 29 dX6_copy_28 rfl ?_
        refine j_get 32 0 gf_X6_11 dX6_copy_29 rfl rfl ?_
        refine j_iload_3 33 dX6_copy_32 rfl ?_
        refine j_aald2 34 1 _ b dX6_copy_33 rfl rfl rfl (by omega) hta ?_
        refine j_callVi 37 Y_X4_isMissing [2] [] (c_X4_isMissing E _ _ _ (by exact ⟨by omega, by omega⟩)) m_X4_isMissing wml_X6_74 dX6_copy_34 0 rfl rfl rfl rfl rfl rfl rfl rfl rfl rfl ?_
        refine j_bif_eq 46 40 dX6_copy_37 (fun q37 => ?_) (fun q37 => ?_)
        · refine j_aload_0 47 dX6_copy_46 rfl ?_
          refine j_get 50 0 gf_X6_11 dX6_copy_47 rfl rfl ?_
          refine j_iload_1 51 dX6_copy_50 rfl ?_
          refine j_aald2 52 1 _ b dX6_copy_51 rfl rfl rfl (by omega) hra ?_
          refine j_iload_2 53 dX6_copy_52 rfl ?_
          refine j_iload 55 dX6_copy_53 rfl ?_
          refine j_callVi 58 Y_X4_lacksSome [2] [_, _] (c_X4_lacksSome E _ _ _ _ _ hN (by exact ⟨by omega, by omega⟩) (by exact ⟨by omega, by omega⟩)) m_X4_lacksSome wml_X6_81 dX6_copy_55 0 rfl rfl rfl rfl rfl rfl rfl rfl rfl rfl ?_
          refine j_bif_ne 77 61 dX6_copy_58 (fun q58 => ?_) (fun q58 => ?_)
          · omega
          · refine j_aload_0 62 dX6_copy_61 rfl ?_
            refine j_get 65 0 gf_X6_11 dX6_copy_62 rfl rfl ?_
            refine j_iload_3 66 dX6_copy_65 rfl ?_
            refine j_aald2 67 1 _ b dX6_copy_66 rfl rfl rfl (by omega) hta ?_
            refine j_iload 69 dX6_copy_67 rfl ?_
            refine j_iload 71 dX6_copy_69 rfl ?_
            refine j_callVi 74 Y_X4_lacksSome [2] [_, _] (c_X4_lacksSome E _ _ _ _ _ hN (by exact ⟨by omega, by omega⟩) (by exact ⟨by omega, by omega⟩)) m_X4_lacksSome wml_X6_81 dX6_copy_71 0 rfl rfl rfl rfl rfl rfl rfl rfl rfl rfl ?_
            refine j_bif_eq 83 77 dX6_copy_74 (fun q74 => ?_) (fun q74 => ?_)
            · refine j_aload_0 84 dX6_copy_83 rfl ?_
              refine j_get 87 0 gf_X6_11 dX6_copy_84 rfl rfl ?_
              refine j_iload_1 88 dX6_copy_87 rfl ?_
              refine j_aald2 89 1 _ b dX6_copy_88 rfl rfl rfl (by omega) hra ?_
              refine j_get 92 2 gf_X6_71 dX6_copy_89 rfl rfl ?_
              refine j_iload_2 93 dX6_copy_92 rfl ?_
              refine j_aload_0 94 dX6_copy_93 rfl ?_
              refine j_get 97 0 gf_X6_11 dX6_copy_94 rfl rfl ?_
              refine j_iload_3 98 dX6_copy_97 rfl ?_
              refine j_aald2 99 1 _ b dX6_copy_98 rfl rfl rfl (by omega) hta ?_
              refine j_get 102 2 gf_X6_71 dX6_copy_99 rfl rfl ?_
              refine j_iload 104 dX6_copy_102 rfl ?_
              refine j_iload 106 dX6_copy_104 rfl ?_
              refine j_copy 109 3 3 i j m wml_X6_85 dX6_copy_106 rfl rfl rfl rfl rfl rfl (by omega) (by omega) rfl ?_
              refine j_iload 111 dX6_copy_109 rfl ?_
              exact j_iret dX6_copy_111 rfl rfl ⟨rfl, rfl⟩
            · omega
        · omega
    · omega

set_option maxRecDepth 100000 in
set_option maxHeartbeats 4000000 in
theorem c_X6_build_bad (E : jD) (h0 : Nat) (h1 : Nat) (x0 : Nat) (g0 : Nat) (h10 : Nat) (y0 : Nat) (h42 : Nat) (fnd : Int) (ask : Int) (r q : Int) (hr : jr r) (hq : jr q) (hb : r < 0 ∨ 4 ≤ r ∨ q < 1 ∨ 6 < q) : MC E Y_X6_build [.ref h0, .int (iI r), .int (iI q)] [(h0, jO 6 [.ref h1, .ref x0, .ref g0, .ref h10, .ref y0, .ref h42, .int (iI fnd), .int (iI ask)])] (fun rr N0 => rr = some (.int (iI (-1))) ∧ N0 = [(h0, jO 6 [.ref h1, .ref x0, .ref g0, .ref h10, .ref y0, .ref h42, .int (iI fnd), .int (iI ask)])]) := by
  refine MC.of (by decide) rfl rfl ?_
  refine j_iload_1 1 dX6_build_0 rfl ?_
  refine j_callSi 4 Y_X6_isNoRow [] [_] (c_X6_isNoRow E _ (by first | with_reducible assumption | exact ⟨by omega, by omega⟩)) m_X6_isNoRow wml_X6_55 dX6_build_1 rfl rfl rfl rfl rfl rfl rfl ?_
  refine j_bif_ne 18 7 dX6_build_4 (fun q4 => ?_) (fun q4 => ?_)
  · refine j_iconst 19 dX6_build_18 ?_
    exact j_iret dX6_build_19 rfl rfl ⟨rfl, rfl⟩
  · refine j_iload_2 8 dX6_build_7 rfl ?_
    refine j_iconst 9 dX6_build_8 ?_
    refine j_icmp_lt 18 12 dX6_build_9 (by first | with_reducible exact iI_rng _ | with_reducible exact bI_r _ | exact ⟨by omega, by omega⟩) (by first | with_reducible exact iI_rng _ | with_reducible exact bI_r _ | exact ⟨by omega, by omega⟩) (fun q9 => ?_) (fun q9 => ?_)
    · refine j_iconst 19 dX6_build_18 ?_
      exact j_iret dX6_build_19 rfl rfl ⟨rfl, rfl⟩
    · refine j_iload_2 13 dX6_build_12 rfl ?_
      refine j_bipush 15 dX6_build_13 (by decide +kernel) ?_
      refine j_icmp_le 20 18 dX6_build_15 (by first | with_reducible exact iI_rng _ | with_reducible exact bI_r _ | exact ⟨by omega, by omega⟩) (by first | with_reducible exact iI_rng _ | with_reducible exact bI_r _ | exact ⟨by omega, by omega⟩) (fun q15 => ?_) (fun q15 => ?_)
      · omega
      · refine j_iconst 19 dX6_build_18 ?_
        exact j_iret dX6_build_19 rfl rfl ⟨rfl, rfl⟩

set_option maxRecDepth 100000 in
set_option maxHeartbeats 4000000 in
theorem c_X6_build_no (E : jD) (h0 : Nat) (h1 : Nat) (x0 : Nat) (g0 : Nat) (h10 : Nat) (y0 : Nat) (h42 : Nat) (b : Nat) (b1 : Nat) (fnd : Int) (ask : Int) (N : Int) (fm : Nat → Int) (ra : Nat → Option Nat) (r q : Nat) (c : Int) (hr4 : r < 4) (hra : ra r = some b) (hN : -1 ≤ N ∧ N ≤ 48) (hq6 : 1 ≤ q ∧ q ≤ 6) (hc : (N < 0 ∧ c = 1) ∨ (N = 0 ∧ c = 3)) : MC E Y_X6_build [.ref h0, .int (iI (r : Int)), .int (iI (q : Int))] [(h0, jO 6 [.ref h1, .ref x0, .ref g0, .ref h10, .ref y0, .ref h42, .int (iI fnd), .int (iI ask)]), (h42, jA E 5 (aI fm)), (h1, jR E 2 4 ra), (b, jO 4 [.ref b1, .int (iI N)])] (fun rr N0 => rr = some (.int (iI (rz c))) ∧ N0 = [(h0, jO 6 [.ref h1, .ref x0, .ref g0, .ref h10, .ref y0, .ref h42, .int (iI (rf c fnd)), .int (iI ask)]), (h42, jA E 5 (aI (rm c fm))), (h1, jR E 2 4 ra), (b, jO 4 [.ref b1, .int (iI N)])]) := by
  refine MC.of (by decide) rfl rfl ?_
  refine j_iload_1 1 dX6_build_0 rfl ?_
  refine j_callSi 4 Y_X6_isNoRow [] [_] (c_X6_isNoRow E _ (by first | with_reducible assumption | exact ⟨by omega, by omega⟩)) m_X6_isNoRow wml_X6_55 dX6_build_1 rfl rfl rfl rfl rfl rfl rfl ?_
  refine j_bif_ne 18 7 dX6_build_4 (fun q4 => ?_) (fun q4 => ?_)
  · omega
  · refine j_iload_2 8 dX6_build_7 rfl ?_
    refine j_iconst 9 dX6_build_8 ?_
    refine j_icmp_lt 18 12 dX6_build_9 (by first | with_reducible exact iI_rng _ | with_reducible exact bI_r _ | exact ⟨by omega, by omega⟩) (by first | with_reducible exact iI_rng _ | with_reducible exact bI_r _ | exact ⟨by omega, by omega⟩) (fun q9 => ?_) (fun q9 => ?_)
    · omega
    · refine j_iload_2 13 dX6_build_12 rfl ?_
      refine j_bipush 15 dX6_build_13 (by decide +kernel) ?_
      refine j_icmp_le 20 18 dX6_build_15 (by first | with_reducible exact iI_rng _ | with_reducible exact bI_r _ | exact ⟨by omega, by omega⟩) (by first | with_reducible exact iI_rng _ | with_reducible exact bI_r _ | exact ⟨by omega, by omega⟩) (fun q15 => ?_) (fun q15 => ?_)
      · refine j_aload_0 21 dX6_build_20 rfl ?_
        refine j_get 24 0 gf_X6_11 dX6_build_21 rfl rfl ?_
        refine j_iload_1 25 dX6_build_24 rfl ?_
        refine j_aald2 26 2 _ b dX6_build_25 rfl rfl rfl (by omega) hra ?_
        refine j_callVi 29 Y_X4_isMissing [3] [] (c_X4_isMissing E _ _ _ (by exact ⟨by omega, by omega⟩)) m_X4_isMissing wml_X6_74 dX6_build_26 0 rfl rfl rfl rfl rfl rfl rfl rfl rfl rfl ?_
        refine j_bif_eq 38 32 dX6_build_29 (fun q29 => ?_) (fun q29 => ?_)
        · refine j_aload_0 39 dX6_build_38 rfl ?_
          refine j_get 42 0 gf_X6_11 dX6_build_39 rfl rfl ?_
          refine j_iload_1 43 dX6_build_42 rfl ?_
          refine j_aald2 44 2 _ b dX6_build_43 rfl rfl rfl (by omega) hra ?_
          refine j_get 47 3 gf_X6_78 dX6_build_44 rfl rfl ?_
          refine j_if_ne 56 50 dX6_build_47 (by first | with_reducible exact iI_rng _ | with_reducible exact bI_r _ | exact ⟨by omega, by omega⟩) (fun q47 => ?_) (fun q47 => ?_)
          · omega
          · refine j_aload_0 51 dX6_build_50 rfl ?_
            refine j_iconst 52 dX6_build_51 ?_
            refine j_callV 55 Y_X6_refuse [0, 1] [_] (c_X6_refuse E _ _ _ _ _ _ _ _ _ _ 3 (by decide)) m_X6_refuse wml_X6_59 dX6_build_52 0 rfl rfl rfl rfl rfl rfl rfl rfl rfl (fun r N h => by obtain ⟨rfl, rfl⟩ := h; rfl) (fun r N h => ?_)
            obtain ⟨rfl, rfl⟩ := h
            obtain rfl : c = 3 := by omega
            exact j_iret dX6_build_55 rfl rfl ⟨rfl, rfl⟩
        · refine j_aload_0 33 dX6_build_32 rfl ?_
          refine j_iconst 34 dX6_build_33 ?_
          refine j_callV 37 Y_X6_refuse [0, 1] [_] (c_X6_refuse E _ _ _ _ _ _ _ _ _ _ 1 (by decide)) m_X6_refuse wml_X6_59 dX6_build_34 0 rfl rfl rfl rfl rfl rfl rfl rfl rfl (fun r N h => by obtain ⟨rfl, rfl⟩ := h; rfl) (fun r N h => ?_)
          obtain ⟨rfl, rfl⟩ := h
          obtain rfl : c = 1 := by omega
          exact j_iret dX6_build_37 rfl rfl ⟨rfl, rfl⟩
      · omega

set_option maxRecDepth 100000 in
set_option maxHeartbeats 4000000 in
theorem c_X6_build_ok (E : jD) (h0 : Nat) (h1 : Nat) (x0 : Nat) (g0 : Nat) (h10 : Nat) (y0 : Nat) (h42 : Nat) (b : Nat) (b1 : Nat) (x1 : Nat) (x2 : Nat) (x3 : Nat) (x4 : Nat) (x5 : Nat) (x6 : Nat) (g1 : Nat) (g2 : Nat) (fnd : Int) (ask : Int) (wd : Int) (bl : Int) (n : Int) (mm : Int) (um : Int) (ra : Nat → Option Nat) (rf0 : Nat → Int32) (f : Nat → Int32) (sh : Nat → Int32) (pl : Nat → Int32) (hp : Nat → Int32) (hq : Nat → Int32) (w : Nat → Int64) (r q n2 : Nat) (hr4 : r < 4) (hra : ra r = some b) (hN : 1 ≤ n2 ∧ n2 ≤ 48) (hq6 : 1 ≤ q ∧ q ≤ 6) : MC E Y_X6_build [.ref h0, .int (iI (r : Int)), .int (iI (q : Int))] [(h0, jO 6 [.ref h1, .ref x0, .ref g0, .ref h10, .ref y0, .ref h42, .int (iI fnd), .int (iI ask)]), (h1, jR E 2 4 ra), (b, jO 4 [.ref b1, .int (iI (n2 : Int))]), (b1, jA E 48 rf0), (x0, jO 3 [.ref x1, .ref x3, .ref x4, .ref x6, .int (iI wd), .int (iI bl)]), (x1, jO 4 [.ref x2, .int (iI n)]), (x2, jA E 48 f), (x3, jA E 48 sh), (x4, jO 5 [.ref x5, .int (iI mm)]), (x5, jL E 64 w), (x6, jA E 6 pl), (g0, jO 1 [.ref g1, .ref g2, .int (iI um)]), (g1, jA E 10 hp), (g2, jA E 10 hq)] (fun rr N0 => ∃ pl2, rr = some (.int (iI ((nB n2 q : Nat) : Int))) ∧ N0 = [(h0, jO 6 [.ref h1, .ref x0, .ref g0, .ref h10, .ref y0, .ref h42, .int (iI fnd), .int (iI ask)]), (h1, jR E 2 4 ra), (b, jO 4 [.ref b1, .int (iI (n2 : Int))]), (b1, jA E 48 rf0), (x0, jO 3 [.ref x1, .ref x3, .ref x4, .ref x6, .int (iI (q : Int)), .int (iI ((nB n2 q : Nat) : Int))]), (x1, jO 4 [.ref x2, .int (iI (n2 : Int))]), (x2, jA E 48 (va_cpy rf0 f 0 0 48)), (x3, jA E 48 (shU sh (tI (va_cpy rf0 f 0 0 48)) n2 q (nB n2 q))), (x4, jO 5 [.ref x5, .int (iI (inB (tI (va_cpy rf0 f 0 0 48)) n2 q (fa 0 64 w) (nB n2 q)).2)]), (x5, jL E 64 (inB (tI (va_cpy rf0 f 0 0 48)) n2 q (fa 0 64 w) (nB n2 q)).1), (x6, jA E 6 pl2), (g0, jO 1 [.ref g1, .ref g2, .int (iI 0)]), (g1, jA E 10 hp), (g2, jA E 10 hq)]) := by
  refine MC.of (by decide) rfl rfl ?_
  refine j_iload_1 1 dX6_build_0 rfl ?_
  refine j_callSi 4 Y_X6_isNoRow [] [_] (c_X6_isNoRow E _ (by first | with_reducible assumption | exact ⟨by omega, by omega⟩)) m_X6_isNoRow wml_X6_55 dX6_build_1 rfl rfl rfl rfl rfl rfl rfl ?_
  refine j_bif_ne 18 7 dX6_build_4 (fun q4 => ?_) (fun q4 => ?_)
  · omega
  · refine j_iload_2 8 dX6_build_7 rfl ?_
    refine j_iconst 9 dX6_build_8 ?_
    refine j_icmp_lt 18 12 dX6_build_9 (by first | with_reducible exact iI_rng _ | with_reducible exact bI_r _ | exact ⟨by omega, by omega⟩) (by first | with_reducible exact iI_rng _ | with_reducible exact bI_r _ | exact ⟨by omega, by omega⟩) (fun q9 => ?_) (fun q9 => ?_)
    · omega
    · refine j_iload_2 13 dX6_build_12 rfl ?_
      refine j_bipush 15 dX6_build_13 (by decide +kernel) ?_
      refine j_icmp_le 20 18 dX6_build_15 (by first | with_reducible exact iI_rng _ | with_reducible exact bI_r _ | exact ⟨by omega, by omega⟩) (by first | with_reducible exact iI_rng _ | with_reducible exact bI_r _ | exact ⟨by omega, by omega⟩) (fun q15 => ?_) (fun q15 => ?_)
      · refine j_aload_0 21 dX6_build_20 rfl ?_
        refine j_get 24 0 gf_X6_11 dX6_build_21 rfl rfl ?_
        refine j_iload_1 25 dX6_build_24 rfl ?_
        refine j_aald2 26 1 _ b dX6_build_25 rfl rfl rfl (by omega) hra ?_
        refine j_callVi 29 Y_X4_isMissing [2] [] (c_X4_isMissing E _ _ _ (by exact ⟨by omega, by omega⟩)) m_X4_isMissing wml_X6_74 dX6_build_26 0 rfl rfl rfl rfl rfl rfl rfl rfl rfl rfl ?_
        refine j_bif_eq 38 32 dX6_build_29 (fun q29 => ?_) (fun q29 => ?_)
        · refine j_aload_0 39 dX6_build_38 rfl ?_
          refine j_get 42 0 gf_X6_11 dX6_build_39 rfl rfl ?_
          refine j_iload_1 43 dX6_build_42 rfl ?_
          refine j_aald2 44 1 _ b dX6_build_43 rfl rfl rfl (by omega) hra ?_
          refine j_get 47 2 gf_X6_78 dX6_build_44 rfl rfl ?_
          refine j_if_ne 56 50 dX6_build_47 (by first | with_reducible exact iI_rng _ | with_reducible exact bI_r _ | exact ⟨by omega, by omega⟩) (fun q47 => ?_) (fun q47 => ?_)
          · refine j_aload_0 57 dX6_build_56 rfl ?_
            refine j_get 60 0 gf_X6_26 dX6_build_57 rfl rfl ?_
            refine j_aload_0 61 dX6_build_60 rfl ?_
            refine j_get 64 0 gf_X6_11 dX6_build_61 rfl rfl ?_
            refine j_iload_1 65 dX6_build_64 rfl ?_
            refine j_aald2 66 1 _ b dX6_build_65 rfl rfl rfl (by omega) hra ?_
            refine j_iload_2 67 dX6_build_66 rfl ?_
            refine j_callV 70 Y_X3_becomeOver [4, 5, 6, 7, 8, 9, 10, 2, 3] [_, _] (c_X3_becomeOver E _ _ _ _ _ _ _ _ _ _ _ _ _ _ _ _ _ _ _ _ hq6 (by omega)) m_X3_becomeOver wml_X6_91 dX6_build_67 0 rfl rfl rfl rfl rfl rfl rfl rfl rfl (fun r N h => by obtain ⟨_, rfl, rfl⟩ := h; rfl) (fun r N h => ?_)
            obtain ⟨pl2, rfl, rfl⟩ := h
            refine j_eqM (M' := [(h0, jO 6 [.ref h1, .ref x0, .ref g0, .ref h10, .ref y0, .ref h42, .int (iI fnd), .int (iI ask)]), (h1, jR E 2 4 ra), (b, jO 4 [.ref b1, .int (iI (n2 : Int))]), (b1, jA E 48 rf0), (x0, jO 3 [.ref x1, .ref x3, .ref x4, .ref x6, .int (iI (q : Int)), .int (iI ((nB n2 q : Nat) : Int))]), (x1, jO 4 [.ref x2, .int (iI (n2 : Int))]), (x2, jA E 48 (va_cpy rf0 f 0 0 48)), (x3, jA E 48 (shU sh (tI (va_cpy rf0 f 0 0 48)) n2 q (nB n2 q))), (x4, jO 5 [.ref x5, .int (iI (inB (tI (va_cpy rf0 f 0 0 48)) n2 q (fa 0 64 w) (nB n2 q)).2)]), (x5, jL E 64 (inB (tI (va_cpy rf0 f 0 0 48)) n2 q (fa 0 64 w) (nB n2 q)).1), (x6, jA E 6 pl2), (g0, jO 1 [.ref g1, .ref g2, .int (iI um)]), (g1, jA E 10 hp), (g2, jA E 10 hq)]) rfl ?_
            refine j_aload_0 71 dX6_build_70 rfl ?_
            refine j_get 74 0 gf_X6_33 dX6_build_71 rfl rfl ?_
            refine j_callV 77 Y_X1_forget [11, 12, 13] [] (c_X1_forget E _ _ _ _ _ _) m_X1_forget wml_X6_95 dX6_build_74 0 rfl rfl rfl rfl rfl rfl rfl rfl rfl (fun r N h => by obtain ⟨rfl, rfl⟩ := h; rfl) (fun r N h => ?_)
            obtain ⟨rfl, rfl⟩ := h
            refine j_aload_0 78 dX6_build_77 rfl ?_
            refine j_get 81 0 gf_X6_26 dX6_build_78 rfl rfl ?_
            refine j_get 84 4 gf_X6_98 dX6_build_81 rfl rfl ?_
            exact j_iret dX6_build_84 rfl rfl ⟨pl2, rfl, rfl⟩
          · omega
        · omega
      · omega
