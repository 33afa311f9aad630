set_option maxRecDepth 100000 in
set_option maxHeartbeats 4000000 in
theorem c_X6_item_ok (E : jD) (h0 : Nat) (h1 : Nat) (x0 : Nat) (g0 : Nat) (h10 : Nat) (y0 : Nat) (h42 : Nat) (x1 : Nat) (x2 : Nat) (x3 : Nat) (x4 : Nat) (x6 : Nat) (fnd : Int) (ask : Int) (wd : Int) (bl : Int) (fm : Nat → Int) (f : Nat → Int32) (n : Nat) (i : Nat) (hn : -1 ≤ (n : Int) ∧ (n : Int) ≤ 48) (hi : i < n) : MC E Y_X6_item [.ref h0, .int (iI (i : Int))] [(h0, jO 6 [.ref h1, .ref x0, .ref g0, .ref h10, .ref y0, .ref h42, .int (iI fnd), .int (iI ask)]), (h42, jA E 5 (aI fm)), (x0, jO 3 [.ref x1, .ref x3, .ref x4, .ref x6, .int (iI wd), .int (iI bl)]), (x1, jO 4 [.ref x2, .int (iI (n : Int))]), (x2, jA E 48 f)] (fun rr N0 => rr = some (.int (iI (1))) ∧ N0 = [(h0, jO 6 [.ref h1, .ref x0, .ref g0, .ref h10, .ref y0, .ref h42, .int (iI fnd), .int (iI (f i).toInt)]), (h42, jA E 5 (aI fm)), (x0, jO 3 [.ref x1, .ref x3, .ref x4, .ref x6, .int (iI wd), .int (iI bl)]), (x1, jO 4 [.ref x2, .int (iI (n : Int))]), (x2, jA E 48 f)]) := by
  refine MC.of (by decide) rfl rfl ?_
  refine j_aload_0 1 dX6_item_0 rfl ?_
  refine j_iload_1 2 dX6_item_1 rfl ?_
  refine j_callVi 5 Y_X6_refusalOfItem [0, 1, 2, 3] [_] (c_X6_refusalOfItem_ok E _ _ _ _ _ _ _ _ _ _ _ _ _ _ _ _ _ _ _ hn (by omega)) m_X6_refusalOfItem wml_X6_101 dX6_item_2 0 rfl rfl rfl rfl rfl rfl rfl rfl rfl rfl ?_
  refine j_istore_2 6 (lv' := [(0, _), (1, _), (2, _)]) dX6_item_5 rfl ⟨rfl, rfl⟩ ?_
  refine j_iload_2 7 dX6_item_6 rfl ?_
  refine j_if_eq 12 10 dX6_item_7 (by first | with_reducible exact iI_rng _ | with_reducible exact bI_r _ | exact ⟨by omega, by omega⟩) (fun q7 => ?_) (fun q7 => ?_)
  · refine j_aload_0 13 dX6_item_12 rfl ?_
    refine j_aload_0 14 dX6_item_13 rfl ?_
    refine j_get 17 0 gf_X6_26 dX6_item_14 rfl rfl ?_
    refine j_get 20 2 gf_X6_104 dX6_item_17 rfl rfl ?_
    refine j_get 23 3 gf_X6_71 dX6_item_20 rfl rfl ?_
    refine j_iload_1 24 dX6_item_23 rfl ?_
    refine j_iald 25 4 _ dX6_item_24 rfl rfl rfl (by omega) ?_
    refine j_put 28 0 pf_X6_52 dX6_item_25 rfl ⟨rfl, rfl, rfl⟩ ?_
    refine j_iconst 29 dX6_item_28 ?_
    exact j_iret dX6_item_29 rfl rfl ⟨rfl, rfl⟩
  · omega

set_option maxRecDepth 100000 in
set_option maxHeartbeats 4000000 in
theorem c_X6_left_ok (E : jD) (h0 : Nat) (h1 : Nat) (x0 : Nat) (g0 : Nat) (h10 : Nat) (y0 : Nat) (h42 : Nat) (x1 : Nat) (x2 : Nat) (x3 : Nat) (x4 : Nat) (x6 : Nat) (fnd : Int) (ask : Int) (wd : Int) (bl : Int) (fm : Nat → Int) (f : Nat → Int32) (n : Nat) (i : Nat) (hn : -1 ≤ (n : Int) ∧ (n : Int) ≤ 48) (hi : i < n) : MC E Y_X6_left [.ref h0, .int (iI (i : Int))] [(h0, jO 6 [.ref h1, .ref x0, .ref g0, .ref h10, .ref y0, .ref h42, .int (iI fnd), .int (iI ask)]), (h42, jA E 5 (aI fm)), (x0, jO 3 [.ref x1, .ref x3, .ref x4, .ref x6, .int (iI wd), .int (iI bl)]), (x1, jO 4 [.ref x2, .int (iI (n : Int))]), (x2, jA E 48 f)] (fun rr N0 => rr = some (.int (iI ((if lfE (tI f) i < 0 then -9 else lfE (tI f) i)))) ∧ N0 = [(h0, jO 6 [.ref h1, .ref x0, .ref g0, .ref h10, .ref y0, .ref h42, .int (iI fnd), .int (iI ask)]), (h42, jA E 5 (aI fm)), (x0, jO 3 [.ref x1, .ref x3, .ref x4, .ref x6, .int (iI wd), .int (iI bl)]), (x1, jO 4 [.ref x2, .int (iI (n : Int))]), (x2, jA E 48 f)]) := by
  refine MC.of (by decide) rfl rfl ?_
  have hl1 := lfE_in (tI f) i
  refine j_aload_0 1 dX6_left_0 rfl ?_
  refine j_iload_1 2 dX6_left_1 rfl ?_
  refine j_callVi 5 Y_X6_refusalOfItem [0, 1, 2, 3] [_] (c_X6_refusalOfItem_ok E _ _ _ _ _ _ _ _ _ _ _ _ _ _ _ _ _ _ _ hn (by omega)) m_X6_refusalOfItem wml_X6_101 dX6_left_2 0 rfl rfl rfl rfl rfl rfl rfl rfl rfl rfl ?_
  refine j_istore_2 6 (lv' := [(0, _), (1, _), (2, _)]) dX6_left_5 rfl ⟨rfl, rfl⟩ ?_
  refine j_iload_2 7 dX6_left_6 rfl ?_
  refine j_if_eq 12 10 dX6_left_7 (by first | with_reducible exact iI_rng _ | with_reducible exact bI_r _ | exact ⟨by omega, by omega⟩) (fun q7 => ?_) (fun q7 => ?_)
  · refine j_aload_0 13 dX6_left_12 rfl ?_
    refine j_get 16 0 gf_X6_26 dX6_left_13 rfl rfl ?_
    refine j_iload_1 17 dX6_left_16 rfl ?_
    refine j_callVi 20 Y_X3_leftEdge [2, 3, 4] [_] (c_X3_leftEdge E _ _ _ _ _ _ _ _ _ _ _ (by omega)) m_X3_leftEdge wml_X6_167 dX6_left_17 0 rfl rfl rfl rfl rfl rfl rfl rfl rfl rfl ?_
    refine j_istore_3 21 (lv' := [(0, _), (1, _), (2, _), (3, _)]) dX6_left_20 rfl ⟨rfl, rfl⟩ ?_
    refine j_iload_3 22 dX6_left_21 rfl ?_
    refine j_if_ge 30 25 dX6_left_22 (by first | with_reducible exact iI_rng _ | with_reducible exact bI_r _ | exact ⟨by omega, by omega⟩) (fun q22 => ?_) (fun q22 => ?_)
    · refine j_iload_3 31 dX6_left_30 rfl ?_
      exact j_iret dX6_left_31 rfl rfl ⟨congrArg (fun z => some (Value.int (iI z))) (by first | exact (if_pos (by omega)).symm | exact (if_neg (by omega)).symm), rfl⟩
    · refine j_bipush 27 dX6_left_25 (by decide +kernel) ?_
      refine j_goto 31 dX6_left_27 ?_
      exact j_iret dX6_left_31 rfl rfl ⟨congrArg (fun z => some (Value.int (iI z))) (by first | exact (if_pos (by omega)).symm | exact (if_neg (by omega)).symm), rfl⟩
  · omega

set_option maxRecDepth 100000 in
set_option maxHeartbeats 4000000 in
theorem c_X6_right_ok (E : jD) (h0 : Nat) (h1 : Nat) (x0 : Nat) (g0 : Nat) (h10 : Nat) (y0 : Nat) (h42 : Nat) (x1 : Nat) (x2 : Nat) (x3 : Nat) (x4 : Nat) (x6 : Nat) (fnd : Int) (ask : Int) (wd : Int) (bl : Int) (fm : Nat → Int) (f : Nat → Int32) (n : Nat) (i : Nat) (hn : -1 ≤ (n : Int) ∧ (n : Int) ≤ 48) (hi : i < n) : MC E Y_X6_right [.ref h0, .int (iI (i : Int))] [(h0, jO 6 [.ref h1, .ref x0, .ref g0, .ref h10, .ref y0, .ref h42, .int (iI fnd), .int (iI ask)]), (h42, jA E 5 (aI fm)), (x0, jO 3 [.ref x1, .ref x3, .ref x4, .ref x6, .int (iI wd), .int (iI bl)]), (x1, jO 4 [.ref x2, .int (iI (n : Int))]), (x2, jA E 48 f)] (fun rr N0 => rr = some (.int (iI ((if n ≤ rtE (tI f) n i then -9 else (rtE (tI f) n i : Int))))) ∧ N0 = [(h0, jO 6 [.ref h1, .ref x0, .ref g0, .ref h10, .ref y0, .ref h42, .int (iI fnd), .int (iI ask)]), (h42, jA E 5 (aI fm)), (x0, jO 3 [.ref x1, .ref x3, .ref x4, .ref x6, .int (iI wd), .int (iI bl)]), (x1, jO 4 [.ref x2, .int (iI (n : Int))]), (x2, jA E 48 f)]) := by
  refine MC.of (by decide) rfl rfl ?_
  have hl1 := rtE_in (tI f) hi
  refine j_aload_0 1 dX6_right_0 rfl ?_
  refine j_iload_1 2 dX6_right_1 rfl ?_
  refine j_callVi 5 Y_X6_refusalOfItem [0, 1, 2, 3] [_] (c_X6_refusalOfItem_ok E _ _ _ _ _ _ _ _ _ _ _ _ _ _ _ _ _ _ _ hn (by omega)) m_X6_refusalOfItem wml_X6_101 dX6_right_2 0 rfl rfl rfl rfl rfl rfl rfl rfl rfl rfl ?_
  refine j_istore_2 6 (lv' := [(0, _), (1, _), (2, _)]) dX6_right_5 rfl ⟨rfl, rfl⟩ ?_
  refine j_iload_2 7 dX6_right_6 rfl ?_
  refine j_if_eq 12 10 dX6_right_7 (by first | with_reducible exact iI_rng _ | with_reducible exact bI_r _ | exact ⟨by omega, by omega⟩) (fun q7 => ?_) (fun q7 => ?_)
  · refine j_aload_0 13 dX6_right_12 rfl ?_
    refine j_get 16 0 gf_X6_26 dX6_right_13 rfl rfl ?_
    refine j_iload_1 17 dX6_right_16 rfl ?_
    refine j_callVi 20 Y_X3_rightEdge [2, 3, 4] [_] (c_X3_rightEdge E _ _ _ _ _ _ _ _ _ _ _ (by omega) hi) m_X3_rightEdge wml_X6_170 dX6_right_17 0 rfl rfl rfl rfl rfl rfl rfl rfl rfl rfl ?_
    refine j_istore_3 21 (lv' := [(0, _), (1, _), (2, _), (3, _)]) dX6_right_20 rfl ⟨rfl, rfl⟩ ?_
    refine j_iload_3 22 dX6_right_21 rfl ?_
    refine j_aload_0 23 dX6_right_22 rfl ?_
    refine j_get 26 0 gf_X6_26 dX6_right_23 rfl rfl ?_
    refine j_get 29 2 gf_X6_104 dX6_right_26 rfl rfl ?_
    refine j_get 32 3 gf_X6_78 dX6_right_29 rfl rfl ?_
    refine j_icmp_lt 40 35 dX6_right_32 (by first | with_reducible exact iI_rng _ | with_reducible exact bI_r _ | exact ⟨by omega, by omega⟩) (by first | with_reducible exact iI_rng _ | with_reducible exact bI_r _ | exact ⟨by omega, by omega⟩) (fun q32 => ?_) (fun q32 => ?_)
    · refine j_iload_3 41 dX6_right_40 rfl ?_
      exact j_iret dX6_right_41 rfl rfl ⟨congrArg (fun z => some (Value.int (iI z))) (by first | exact (if_pos (by omega)).symm | exact (if_neg (by omega)).symm), rfl⟩
    · refine j_bipush 37 dX6_right_35 (by decide +kernel) ?_
      refine j_goto 41 dX6_right_37 ?_
      exact j_iret dX6_right_41 rfl rfl ⟨congrArg (fun z => some (Value.int (iI z))) (by first | exact (if_pos (by omega)).symm | exact (if_neg (by omega)).symm), rfl⟩
  · omega

set_option maxRecDepth 100000 in
set_option maxHeartbeats 4000000 in
theorem c_X6_owns_ok (E : jD) (h0 : Nat) (h1 : Nat) (x0 : Nat) (g0 : Nat) (h10 : Nat) (y0 : Nat) (h42 : Nat) (x1 : Nat) (x2 : Nat) (x3 : Nat) (x4 : Nat) (x6 : Nat) (fnd : Int) (ask : Int) (wd : Int) (bl : Int) (fm : Nat → Int) (f : Nat → Int32) (n : Nat) (i : Nat) (hn : -1 ≤ (n : Int) ∧ (n : Int) ≤ 48) (hi : i < n) : MC E Y_X6_owns [.ref h0, .int (iI (i : Int))] [(h0, jO 6 [.ref h1, .ref x0, .ref g0, .ref h10, .ref y0, .ref h42, .int (iI fnd), .int (iI ask)]), (h42, jA E 5 (aI fm)), (x0, jO 3 [.ref x1, .ref x3, .ref x4, .ref x6, .int (iI wd), .int (iI bl)]), (x1, jO 4 [.ref x2, .int (iI (n : Int))]), (x2, jA E 48 f)] (fun rr N0 => rr = some (.int (iI (ownF (tI f) n i))) ∧ N0 = [(h0, jO 6 [.ref h1, .ref x0, .ref g0, .ref h10, .ref y0, .ref h42, .int (iI fnd), .int (iI ask)]), (h42, jA E 5 (aI fm)), (x0, jO 3 [.ref x1, .ref x3, .ref x4, .ref x6, .int (iI wd), .int (iI bl)]), (x1, jO 4 [.ref x2, .int (iI (n : Int))]), (x2, jA E 48 f)]) := by
  refine MC.of (by decide) rfl rfl ?_
  refine j_aload_0 1 dX6_owns_0 rfl ?_
  refine j_iload_1 2 dX6_owns_1 rfl ?_
  refine j_callVi 5 Y_X6_refusalOfItem [0, 1, 2, 3] [_] (c_X6_refusalOfItem_ok E _ _ _ _ _ _ _ _ _ _ _ _ _ _ _ _ _ _ _ hn (by omega)) m_X6_refusalOfItem wml_X6_101 dX6_owns_2 0 rfl rfl rfl rfl rfl rfl rfl rfl rfl rfl ?_
  refine j_istore_2 6 (lv' := [(0, _), (1, _), (2, _)]) dX6_owns_5 rfl ⟨rfl, rfl⟩ ?_
  refine j_iload_2 7 dX6_owns_6 rfl ?_
  refine j_if_eq 12 10 dX6_owns_7 (by first | with_reducible exact iI_rng _ | with_reducible exact bI_r _ | exact ⟨by omega, by omega⟩) (fun q7 => ?_) (fun q7 => ?_)
  · refine j_aload_0 13 dX6_owns_12 rfl ?_
    refine j_get 16 0 gf_X6_26 dX6_owns_13 rfl rfl ?_
    refine j_iload_1 17 dX6_owns_16 rfl ?_
    refine j_callVi 20 Y_X3_runsOwned [2, 3, 4] [_] (c_X3_runsOwned E _ _ _ _ _ _ _ _ _ _ _ (by omega) hi) m_X3_runsOwned wml_X6_173 dX6_owns_17 0 rfl rfl rfl rfl rfl rfl rfl rfl rfl rfl ?_
    exact j_iret dX6_owns_20 rfl rfl ⟨rfl, rfl⟩
  · omega

set_option maxRecDepth 100000 in
set_option maxHeartbeats 4000000 in
theorem c_X6_parent_ok (E : jD) (h0 : Nat) (h1 : Nat) (x0 : Nat) (g0 : Nat) (h10 : Nat) (y0 : Nat) (h42 : Nat) (x1 : Nat) (x2 : Nat) (x3 : Nat) (x4 : Nat) (x6 : Nat) (fnd : Int) (ask : Int) (wd : Int) (bl : Int) (fm : Nat → Int) (f : Nat → Int32) (n : Nat) (i : Nat) (hn : -1 ≤ (n : Int) ∧ (n : Int) ≤ 48) (hi : i < n) : MC E Y_X6_parent [.ref h0, .int (iI (i : Int))] [(h0, jO 6 [.ref h1, .ref x0, .ref g0, .ref h10, .ref y0, .ref h42, .int (iI fnd), .int (iI ask)]), (h42, jA E 5 (aI fm)), (x0, jO 3 [.ref x1, .ref x3, .ref x4, .ref x6, .int (iI wd), .int (iI bl)]), (x1, jO 4 [.ref x2, .int (iI (n : Int))]), (x2, jA E 48 f)] (fun rr N0 => rr = some (.int (iI (paF (tI f) n i))) ∧ N0 = [(h0, jO 6 [.ref h1, .ref x0, .ref g0, .ref h10, .ref y0, .ref h42, .int (iI fnd), .int (iI ask)]), (h42, jA E 5 (aI fm)), (x0, jO 3 [.ref x1, .ref x3, .ref x4, .ref x6, .int (iI wd), .int (iI bl)]), (x1, jO 4 [.ref x2, .int (iI (n : Int))]), (x2, jA E 48 f)]) := by
  refine MC.of (by decide) rfl rfl ?_
  refine j_aload_0 1 dX6_parent_0 rfl ?_
  refine j_iload_1 2 dX6_parent_1 rfl ?_
  refine j_callVi 5 Y_X6_refusalOfItem [0, 1, 2, 3] [_] (c_X6_refusalOfItem_ok E _ _ _ _ _ _ _ _ _ _ _ _ _ _ _ _ _ _ _ hn (by omega)) m_X6_refusalOfItem wml_X6_101 dX6_parent_2 0 rfl rfl rfl rfl rfl rfl rfl rfl rfl rfl ?_
  refine j_istore_2 6 (lv' := [(0, _), (1, _), (2, _)]) dX6_parent_5 rfl ⟨rfl, rfl⟩ ?_
  refine j_iload_2 7 dX6_parent_6 rfl ?_
  refine j_if_eq 12 10 dX6_parent_7 (by first | with_reducible exact iI_rng _ | with_reducible exact bI_r _ | exact ⟨by omega, by omega⟩) (fun q7 => ?_) (fun q7 => ?_)
  · refine j_aload_0 13 dX6_parent_12 rfl ?_
    refine j_get 16 0 gf_X6_26 dX6_parent_13 rfl rfl ?_
    refine j_iload_1 17 dX6_parent_16 rfl ?_
    refine j_callVi 20 Y_X3_parentPlace [2, 3, 4] [_] (c_X3_parentPlace E _ _ _ _ _ _ _ _ _ _ _ (by omega) hi) m_X3_parentPlace wml_X6_176 dX6_parent_17 0 rfl rfl rfl rfl rfl rfl rfl rfl rfl rfl ?_
    exact j_iret dX6_parent_20 rfl rfl ⟨rfl, rfl⟩
  · omega

set_option maxRecDepth 100000 in
set_option maxHeartbeats 4000000 in
theorem c_X6_depth_ok (E : jD) (h0 : Nat) (h1 : Nat) (x0 : Nat) (g0 : Nat) (h10 : Nat) (y0 : Nat) (h42 : Nat) (x1 : Nat) (x2 : Nat) (x3 : Nat) (x4 : Nat) (x6 : Nat) (fnd : Int) (ask : Int) (wd : Int) (bl : Int) (fm : Nat → Int) (f : Nat → Int32) (n : Nat) (i : Nat) (hn : -1 ≤ (n : Int) ∧ (n : Int) ≤ 48) (hi : i < n) : MC E Y_X6_depth [.ref h0, .int (iI (i : Int))] [(h0, jO 6 [.ref h1, .ref x0, .ref g0, .ref h10, .ref y0, .ref h42, .int (iI fnd), .int (iI ask)]), (h42, jA E 5 (aI fm)), (x0, jO 3 [.ref x1, .ref x3, .ref x4, .ref x6, .int (iI wd), .int (iI bl)]), (x1, jO 4 [.ref x2, .int (iI (n : Int))]), (x2, jA E 48 f)] (fun rr N0 => rr = some (.int (iI ((dpF (tI f) n n (paF (tI f) n i) : Nat)))) ∧ N0 = [(h0, jO 6 [.ref h1, .ref x0, .ref g0, .ref h10, .ref y0, .ref h42, .int (iI fnd), .int (iI ask)]), (h42, jA E 5 (aI fm)), (x0, jO 3 [.ref x1, .ref x3, .ref x4, .ref x6, .int (iI wd), .int (iI bl)]), (x1, jO 4 [.ref x2, .int (iI (n : Int))]), (x2, jA E 48 f)]) := by
  refine MC.of (by decide) rfl rfl ?_
  refine j_aload_0 1 dX6_depth_0 rfl ?_
  refine j_iload_1 2 dX6_depth_1 rfl ?_
  refine j_callVi 5 Y_X6_refusalOfItem [0, 1, 2, 3] [_] (c_X6_refusalOfItem_ok E _ _ _ _ _ _ _ _ _ _ _ _ _ _ _ _ _ _ _ hn (by omega)) m_X6_refusalOfItem wml_X6_101 dX6_depth_2 0 rfl rfl rfl rfl rfl rfl rfl rfl rfl rfl ?_
  refine j_istore_2 6 (lv' := [(0, _), (1, _), (2, _)]) dX6_depth_5 rfl ⟨rfl, rfl⟩ ?_
  refine j_iload_2 7 dX6_depth_6 rfl ?_
  refine j_if_eq 12 10 dX6_depth_7 (by first | with_reducible exact iI_rng _ | with_reducible exact bI_r _ | exact ⟨by omega, by omega⟩) (fun q7 => ?_) (fun q7 => ?_)
  · refine j_aload_0 13 dX6_depth_12 rfl ?_
    refine j_get 16 0 gf_X6_26 dX6_depth_13 rfl rfl ?_
    refine j_iload_1 17 dX6_depth_16 rfl ?_
    refine j_callVi 20 Y_X3_depthOf [2, 3, 4] [_] (c_X3_depthOf E _ _ _ _ _ _ _ _ _ _ _ (by omega) hi) m_X3_depthOf wml_X6_179 dX6_depth_17 0 rfl rfl rfl rfl rfl rfl rfl rfl rfl rfl ?_
    exact j_iret dX6_depth_20 rfl rfl ⟨rfl, rfl⟩
  · omega

set_option maxRecDepth 100000 in
set_option maxHeartbeats 4000000 in
theorem c_X6_size_ok (E : jD) (h0 : Nat) (h1 : Nat) (x0 : Nat) (g0 : Nat) (h10 : Nat) (y0 : Nat) (h42 : Nat) (x1 : Nat) (x2 : Nat) (x3 : Nat) (x4 : Nat) (x6 : Nat) (fnd : Int) (ask : Int) (wd : Int) (bl : Int) (fm : Nat → Int) (f : Nat → Int32) (n : Nat) (i : Nat) (hn : -1 ≤ (n : Int) ∧ (n : Int) ≤ 48) (hi : i < n) : MC E Y_X6_size [.ref h0, .int (iI (i : Int))] [(h0, jO 6 [.ref h1, .ref x0, .ref g0, .ref h10, .ref y0, .ref h42, .int (iI fnd), .int (iI ask)]), (h42, jA E 5 (aI fm)), (x0, jO 3 [.ref x1, .ref x3, .ref x4, .ref x6, .int (iI wd), .int (iI bl)]), (x1, jO 4 [.ref x2, .int (iI (n : Int))]), (x2, jA E 48 f)] (fun rr N0 => rr = some (.int (iI ((rtE (tI f) n i : Int) - lfE (tI f) i - 1))) ∧ N0 = [(h0, jO 6 [.ref h1, .ref x0, .ref g0, .ref h10, .ref y0, .ref h42, .int (iI fnd), .int (iI ask)]), (h42, jA E 5 (aI fm)), (x0, jO 3 [.ref x1, .ref x3, .ref x4, .ref x6, .int (iI wd), .int (iI bl)]), (x1, jO 4 [.ref x2, .int (iI (n : Int))]), (x2, jA E 48 f)]) := by
  refine MC.of (by decide) rfl rfl ?_
  refine j_aload_0 1 dX6_size_0 rfl ?_
  refine j_iload_1 2 dX6_size_1 rfl ?_
  refine j_callVi 5 Y_X6_refusalOfItem [0, 1, 2, 3] [_] (c_X6_refusalOfItem_ok E _ _ _ _ _ _ _ _ _ _ _ _ _ _ _ _ _ _ _ hn (by omega)) m_X6_refusalOfItem wml_X6_101 dX6_size_2 0 rfl rfl rfl rfl rfl rfl rfl rfl rfl rfl ?_
  refine j_istore_2 6 (lv' := [(0, _), (1, _), (2, _)]) dX6_size_5 rfl ⟨rfl, rfl⟩ ?_
  refine j_iload_2 7 dX6_size_6 rfl ?_
  refine j_if_eq 12 10 dX6_size_7 (by first | with_reducible exact iI_rng _ | with_reducible exact bI_r _ | exact ⟨by omega, by omega⟩) (fun q7 => ?_) (fun q7 => ?_)
  · refine j_aload_0 13 dX6_size_12 rfl ?_
    refine j_get 16 0 gf_X6_26 dX6_size_13 rfl rfl ?_
    refine j_iload_1 17 dX6_size_16 rfl ?_
    refine j_callVi 20 Y_X3_rightEdge [2, 3, 4] [_] (c_X3_rightEdge E _ _ _ _ _ _ _ _ _ _ _ (by omega) hi) m_X3_rightEdge wml_X6_170 dX6_size_17 0 rfl rfl rfl rfl rfl rfl rfl rfl rfl rfl ?_
    refine j_aload_0 21 dX6_size_20 rfl ?_
    refine j_get 24 0 gf_X6_26 dX6_size_21 rfl rfl ?_
    refine j_iload_1 25 dX6_size_24 rfl ?_
    refine j_callVi 28 Y_X3_leftEdge [2, 3, 4] [_] (c_X3_leftEdge E _ _ _ _ _ _ _ _ _ _ _ (by omega)) m_X3_leftEdge wml_X6_167 dX6_size_25 0 rfl rfl rfl rfl rfl rfl rfl rfl rfl rfl ?_
    refine j_isub 29 dX6_size_28 ?_
    refine j_iconst 30 dX6_size_29 ?_
    refine j_isub 31 dX6_size_30 ?_
    exact j_iret dX6_size_31 rfl rfl ⟨rfl, rfl⟩
  · omega

set_option maxRecDepth 100000 in
set_option maxHeartbeats 4000000 in
theorem c_X6_least_ok (E : jD) (h0 : Nat) (h1 : Nat) (x0 : Nat) (g0 : Nat) (h10 : Nat) (y0 : Nat) (h42 : Nat) (x1 : Nat) (x2 : Nat) (x3 : Nat) (x4 : Nat) (x6 : Nat) (fnd : Int) (ask : Int) (wd : Int) (bl : Int) (fm : Nat → Int) (f : Nat → Int32) (n : Nat) (i j : Nat) (hn : -1 ≤ (n : Int) ∧ (n : Int) ≤ 48) (hij : i ≤ j) (hj : j < n) : MC E Y_X6_least [.ref h0, .int (iI (i : Int)), .int (iI (j : Int))] [(h0, jO 6 [.ref h1, .ref x0, .ref g0, .ref h10, .ref y0, .ref h42, .int (iI fnd), .int (iI ask)]), (h42, jA E 5 (aI fm)), (x0, jO 3 [.ref x1, .ref x3, .ref x4, .ref x6, .int (iI wd), .int (iI bl)]), (x1, jO 4 [.ref x2, .int (iI (n : Int))]), (x2, jA E 48 f)] (fun rr N0 => rr = some (.int (iI ((lsF (tI f) i (j - i) : Nat)))) ∧ N0 = [(h0, jO 6 [.ref h1, .ref x0, .ref g0, .ref h10, .ref y0, .ref h42, .int (iI fnd), .int (iI (f (lsF (tI f) i (j - i))).toInt)]), (h42, jA E 5 (aI fm)), (x0, jO 3 [.ref x1, .ref x3, .ref x4, .ref x6, .int (iI wd), .int (iI bl)]), (x1, jO 4 [.ref x2, .int (iI (n : Int))]), (x2, jA E 48 f)]) := by
  refine MC.of (by decide) rfl rfl ?_
  have hl1 := lsF_in (tI f) i (j - i)
  refine j_aload_0 1 dX6_least_0 rfl ?_
  refine j_iload_1 2 dX6_least_1 rfl ?_
  refine j_iload_2 3 dX6_least_2 rfl ?_
  refine j_callVi 6 Y_X6_refusalOfRun [0, 1, 2, 3] [_, _] (c_X6_refusalOfRun_ok E _ _ _ _ _ _ _ _ _ _ _ _ _ _ _ _ _ _ _ _ hn (by omega) (by omega)) m_X6_refusalOfRun wml_X6_158 dX6_least_3 0 rfl rfl rfl rfl rfl rfl rfl rfl rfl rfl ?_
  refine j_istore_3 7 (lv' := [(0, _), (1, _), (2, _), (3, _)]) dX6_least_6 rfl ⟨rfl, rfl⟩ ?_
  refine j_iload_3 8 dX6_least_7 rfl ?_
  refine j_if_eq 13 11 dX6_least_8 (by first | with_reducible exact iI_rng _ | with_reducible exact bI_r _ | exact ⟨by omega, by omega⟩) (fun q8 => ?_) (fun q8 => ?_)
  · refine j_aload_0 14 dX6_least_13 rfl ?_
    refine j_get 17 0 gf_X6_26 dX6_least_14 rfl rfl ?_
    refine j_iload_1 18 dX6_least_17 rfl ?_
    refine j_iload_2 19 dX6_least_18 rfl ?_
    refine j_callVi 22 Y_X3_leastPlace [2, 3, 4] [_, _] (c_X3_leastPlace E _ _ _ _ _ _ _ _ _ _ _ _ (by omega) hij) m_X3_leastPlace wml_X6_161 dX6_least_19 0 rfl rfl rfl rfl rfl rfl rfl rfl rfl rfl ?_
    refine j_istore 24 (lv' := [(0, _), (1, _), (2, _), (3, _), (4, _)]) dX6_least_22 rfl ⟨rfl, rfl⟩ ?_
    refine j_aload_0 25 dX6_least_24 rfl ?_
    refine j_aload_0 26 dX6_least_25 rfl ?_
    refine j_get 29 0 gf_X6_26 dX6_least_26 rfl rfl ?_
    refine j_get 32 2 gf_X6_104 dX6_least_29 rfl rfl ?_
    refine j_get 35 3 gf_X6_71 dX6_least_32 rfl rfl ?_
    refine j_iload 37 dX6_least_35 rfl ?_
    refine j_iald 38 4 _ dX6_least_37 rfl rfl rfl (by omega) ?_
    refine j_put 41 0 pf_X6_52 dX6_least_38 rfl ⟨rfl, rfl, rfl⟩ ?_
    refine j_iload 43 dX6_least_41 rfl ?_
    exact j_iret dX6_least_43 rfl rfl ⟨rfl, rfl⟩
  · omega

set_option maxRecDepth 100000 in
set_option maxHeartbeats 4000000 in
theorem c_X6_kth_ok (E : jD) (h0 : Nat) (h1 : Nat) (x0 : Nat) (g0 : Nat) (h10 : Nat) (y0 : Nat) (h42 : Nat) (x1 : Nat) (x2 : Nat) (x3 : Nat) (x4 : Nat) (x6 : Nat) (fnd : Int) (ask : Int) (wd : Int) (bl : Int) (fm : Nat → Int) (f : Nat → Int32) (n : Nat) (i j : Nat) (k : Int) (hn : -1 ≤ (n : Int) ∧ (n : Int) ≤ 48) (hij : i ≤ j) (hj : j < n) (hk : 0 ≤ k ∧ k ≤ (j : Int) - i) : MC E Y_X6_kth [.ref h0, .int (iI (i : Int)), .int (iI (j : Int)), .int (iI k)] [(h0, jO 6 [.ref h1, .ref x0, .ref g0, .ref h10, .ref y0, .ref h42, .int (iI fnd), .int (iI ask)]), (h42, jA E 5 (aI fm)), (x0, jO 3 [.ref x1, .ref x3, .ref x4, .ref x6, .int (iI wd), .int (iI bl)]), (x1, jO 4 [.ref x2, .int (iI (n : Int))]), (x2, jA E 48 f)] (fun rr N0 => rr = some (.int (iI (((ktF (tI f) i (j + 1 - i) k (j - i) i) : Nat)))) ∧ N0 = [(h0, jO 6 [.ref h1, .ref x0, .ref g0, .ref h10, .ref y0, .ref h42, .int (iI fnd), .int (iI (f (ktF (tI f) i (j + 1 - i) k (j - i) i)).toInt)]), (h42, jA E 5 (aI fm)), (x0, jO 3 [.ref x1, .ref x3, .ref x4, .ref x6, .int (iI wd), .int (iI bl)]), (x1, jO 4 [.ref x2, .int (iI (n : Int))]), (x2, jA E 48 f)]) := by
  refine MC.of (by decide) rfl rfl ?_
  have hl1 := ktF_in (tI f) i (j + 1 - i) k (j - i) i
  refine j_aload_0 1 dX6_kth_0 rfl ?_
  refine j_iload_1 2 dX6_kth_1 rfl ?_
  refine j_iload_2 3 dX6_kth_2 rfl ?_
  refine j_callVi 6 Y_X6_refusalOfRun [0, 1, 2, 3] [_, _] (c_X6_refusalOfRun_ok E _ _ _ _ _ _ _ _ _ _ _ _ _ _ _ _ _ _ _ _ hn (by omega) (by omega)) m_X6_refusalOfRun wml_X6_158 dX6_kth_3 0 rfl rfl rfl rfl rfl rfl rfl rfl rfl rfl ?_
  refine j_istore 8 (lv' := [(0, _), (1, _), (2, _), (3, _), (4, _)]) dX6_kth_6 rfl ⟨rfl, rfl⟩ ?_
  refine j_iload 10 dX6_kth_8 rfl ?_
  refine j_if_eq 16 13 dX6_kth_10 (by first | with_reducible exact iI_rng _ | with_reducible exact bI_r _ | exact ⟨by omega, by omega⟩) (fun q10 => ?_) (fun q10 => ?_)
  · refine j_iload_3 17 dX6_kth_16 rfl ?_
    refine j_if_lt 27 20 dX6_kth_17 (by first | with_reducible exact iI_rng _ | with_reducible exact bI_r _ | exact ⟨by omega, by omega⟩) (fun q17 => ?_) (fun q17 => ?_)
    · omega
    · refine j_iload_3 21 dX6_kth_20 rfl ?_
      refine j_iload_2 22 dX6_kth_21 rfl ?_
      refine j_iload_1 23 dX6_kth_22 rfl ?_
      refine j_isub 24 dX6_kth_23 ?_
      refine j_icmp_le 33 27 dX6_kth_24 (by first | with_reducible exact iI_rng _ | with_reducible exact bI_r _ | exact ⟨by omega, by omega⟩) (by first | with_reducible exact iI_rng _ | with_reducible exact bI_r _ | exact ⟨by omega, by omega⟩) (fun q24 => ?_) (fun q24 => ?_)
      · refine j_aload_0 34 dX6_kth_33 rfl ?_
        refine j_get 37 0 gf_X6_26 dX6_kth_34 rfl rfl ?_
        refine j_iload_1 38 dX6_kth_37 rfl ?_
        refine j_iload_2 39 dX6_kth_38 rfl ?_
        refine j_iload_3 40 dX6_kth_39 rfl ?_
        refine j_callVi 43 Y_X3_kthPlace [2, 3, 4] [_, _, _] (c_X3_kthPlace E _ _ _ _ _ _ _ _ _ _ _ _ _ (by omega) hij (by exact ⟨by omega, by omega⟩)) m_X3_kthPlace wml_X6_164 dX6_kth_40 0 rfl rfl rfl rfl rfl rfl rfl rfl rfl rfl ?_
        refine j_istore 45 (lv' := [(0, _), (1, _), (2, _), (3, _), (4, _), (5, _)]) dX6_kth_43 rfl ⟨rfl, rfl⟩ ?_
        refine j_aload_0 46 dX6_kth_45 rfl ?_
        refine j_aload_0 47 dX6_kth_46 rfl ?_
        refine j_get 50 0 gf_X6_26 dX6_kth_47 rfl rfl ?_
        refine j_get 53 2 gf_X6_104 dX6_kth_50 rfl rfl ?_
        refine j_get 56 3 gf_X6_71 dX6_kth_53 rfl rfl ?_
        refine j_iload 58 dX6_kth_56 rfl ?_
        refine j_iald 59 4 _ dX6_kth_58 rfl rfl rfl (by omega) ?_
        refine j_put 62 0 pf_X6_52 dX6_kth_59 rfl ⟨rfl, rfl, rfl⟩ ?_
        refine j_iload 64 dX6_kth_62 rfl ?_
        exact j_iret dX6_kth_64 rfl rfl ⟨rfl, rfl⟩
      · omega
  · omega

set_option maxRecDepth 100000 in
set_option maxHeartbeats 4000000 in
theorem c_X6_kth_bey (E : jD) (h0 : Nat) (h1 : Nat) (x0 : Nat) (g0 : Nat) (h10 : Nat) (y0 : Nat) (h42 : Nat) (x1 : Nat) (x2 : Nat) (x3 : Nat) (x4 : Nat) (x6 : Nat) (fnd : Int) (ask : Int) (wd : Int) (bl : Int) (n : Int) (fm : Nat → Int) (i j : Nat) (k c : Int) (hn : -1 ≤ n ∧ n ≤ 48) (hij : i ≤ j) (hj : (j : Int) < n) (hk : jr k) (hc : (k < 0 ∨ (j : Int) - i < k) ∧ c = 2) : MC E Y_X6_kth [.ref h0, .int (iI (i : Int)), .int (iI (j : Int)), .int (iI k)] [(h0, jO 6 [.ref h1, .ref x0, .ref g0, .ref h10, .ref y0, .ref h42, .int (iI fnd), .int (iI ask)]), (h42, jA E 5 (aI fm)), (x0, jO 3 [.ref x1, .ref x3, .ref x4, .ref x6, .int (iI wd), .int (iI bl)]), (x1, jO 4 [.ref x2, .int (iI n)])] (fun rr N0 => rr = some (.int (iI (rz c))) ∧ N0 = [(h0, jO 6 [.ref h1, .ref x0, .ref g0, .ref h10, .ref y0, .ref h42, .int (iI (rf c fnd)), .int (iI ask)]), (h42, jA E 5 (aI (rm c fm))), (x0, jO 3 [.ref x1, .ref x3, .ref x4, .ref x6, .int (iI wd), .int (iI bl)]), (x1, jO 4 [.ref x2, .int (iI n)])]) := by
  refine MC.of (by decide) rfl rfl ?_
  refine j_aload_0 1 dX6_kth_0 rfl ?_
  refine j_iload_1 2 dX6_kth_1 rfl ?_
  refine j_iload_2 3 dX6_kth_2 rfl ?_
  refine j_callVi 6 Y_X6_refusalOfRun [0, 1, 2, 3] [_, _] (c_X6_refusalOfRun_ok E _ _ _ _ _ _ _ _ _ _ _ _ _ _ _ _ _ _ _ _ hn (by omega) (by omega)) m_X6_refusalOfRun wml_X6_158 dX6_kth_3 0 rfl rfl rfl rfl rfl rfl rfl rfl rfl rfl ?_
  refine j_istore 8 (lv' := [(0, _), (1, _), (2, _), (3, _), (4, _)]) dX6_kth_6 rfl ⟨rfl, rfl⟩ ?_
  refine j_iload 10 dX6_kth_8 rfl ?_
  refine j_if_eq 16 13 dX6_kth_10 (by first | with_reducible exact iI_rng _ | with_reducible exact bI_r _ | exact ⟨by omega, by omega⟩) (fun q10 => ?_) (fun q10 => ?_)
  · refine j_iload_3 17 dX6_kth_16 rfl ?_
    refine j_if_lt 27 20 dX6_kth_17 (by first | with_reducible exact iI_rng _ | with_reducible exact bI_r _ | exact ⟨by omega, by omega⟩) (fun q17 => ?_) (fun q17 => ?_)
    · refine j_aload_0 28 dX6_kth_27 rfl ?_
      refine j_iconst 29 dX6_kth_28 ?_
      refine j_callV 32 Y_X6_refuse [0, 1] [_] (c_X6_refuse E _ _ _ _ _ _ _ _ _ _ 2 (by decide)) m_X6_refuse wml_X6_59 dX6_kth_29 0 rfl rfl rfl rfl rfl rfl rfl rfl rfl (fun r N h => by obtain ⟨rfl, rfl⟩ := h; rfl) (fun r N h => ?_)
      obtain ⟨rfl, rfl⟩ := h
      obtain rfl : c = 2 := by omega
      exact j_iret dX6_kth_32 rfl rfl ⟨rfl, rfl⟩
    · refine j_iload_3 21 dX6_kth_20 rfl ?_
      refine j_iload_2 22 dX6_kth_21 rfl ?_
      refine j_iload_1 23 dX6_kth_22 rfl ?_
      refine j_isub 24 dX6_kth_23 ?_
      refine j_icmp_le 33 27 dX6_kth_24 (by first | with_reducible exact iI_rng _ | with_reducible exact bI_r _ | exact ⟨by omega, by omega⟩) (by first | with_reducible exact iI_rng _ | with_reducible exact bI_r _ | exact ⟨by omega, by omega⟩) (fun q24 => ?_) (fun q24 => ?_)
      · omega
      · refine j_aload_0 28 dX6_kth_27 rfl ?_
        refine j_iconst 29 dX6_kth_28 ?_
        refine j_callV 32 Y_X6_refuse [0, 1] [_] (c_X6_refuse E _ _ _ _ _ _ _ _ _ _ 2 (by decide)) m_X6_refuse wml_X6_59 dX6_kth_29 0 rfl rfl rfl rfl rfl rfl rfl rfl rfl (fun r N h => by obtain ⟨rfl, rfl⟩ := h; rfl) (fun r N h => ?_)
        obtain ⟨rfl, rfl⟩ := h
        obtain rfl : c = 2 := by omega
        exact j_iret dX6_kth_32 rfl rfl ⟨rfl, rfl⟩
  · omega

set_option maxRecDepth 100000 in
set_option maxHeartbeats 4000000 in
theorem c_X6_above_bey (E : jD) (h0 : Nat) (h1 : Nat) (x0 : Nat) (g0 : Nat) (h10 : Nat) (y0 : Nat) (h42 : Nat) (x1 : Nat) (x2 : Nat) (x3 : Nat) (x4 : Nat) (x6 : Nat) (fnd : Int) (ask : Int) (wd : Int) (bl : Int) (n : Int) (fm : Nat → Int) (i : Nat) (d c : Int) (hn : -1 ≤ n ∧ n ≤ 48) (hi : (i : Int) < n) (hd : jr d) (hc : d < 0 ∧ c = 2) : MC E Y_X6_above [.ref h0, .int (iI (i : Int)), .int (iI d)] [(h0, jO 6 [.ref h1, .ref x0, .ref g0, .ref h10, .ref y0, .ref h42, .int (iI fnd), .int (iI ask)]), (h42, jA E 5 (aI fm)), (x0, jO 3 [.ref x1, .ref x3, .ref x4, .ref x6, .int (iI wd), .int (iI bl)]), (x1, jO 4 [.ref x2, .int (iI n)])] (fun rr N0 => rr = some (.int (iI (rz c))) ∧ N0 = [(h0, jO 6 [.ref h1, .ref x0, .ref g0, .ref h10, .ref y0, .ref h42, .int (iI (rf c fnd)), .int (iI ask)]), (h42, jA E 5 (aI (rm c fm))), (x0, jO 3 [.ref x1, .ref x3, .ref x4, .ref x6, .int (iI wd), .int (iI bl)]), (x1, jO 4 [.ref x2, .int (iI n)])]) := by
  refine MC.of (by decide) rfl rfl ?_
  refine j_aload_0 1 dX6_above_0 rfl ?_
  refine j_iload_1 2 dX6_above_1 rfl ?_
  refine j_callVi 5 Y_X6_refusalOfItem [0, 1, 2, 3] [_] (c_X6_refusalOfItem_ok E _ _ _ _ _ _ _ _ _ _ _ _ _ _ _ _ _ _ _ hn (by omega)) m_X6_refusalOfItem wml_X6_101 dX6_above_2 0 rfl rfl rfl rfl rfl rfl rfl rfl rfl rfl ?_
  refine j_istore_3 6 (lv' := [(0, _), (1, _), (2, _), (3, _)]) dX6_above_5 rfl ⟨rfl, rfl⟩ ?_
  refine j_iload_3 7 dX6_above_6 rfl ?_
  refine j_if_eq 12 10 dX6_above_7 (by first | with_reducible exact iI_rng _ | with_reducible exact bI_r _ | exact ⟨by omega, by omega⟩) (fun q7 => ?_) (fun q7 => ?_)
  · refine j_iload_2 13 dX6_above_12 rfl ?_
    refine j_if_ge 22 16 dX6_above_13 (by first | with_reducible exact iI_rng _ | with_reducible exact bI_r _ | exact ⟨by omega, by omega⟩) (fun q13 => ?_) (fun q13 => ?_)
    · omega
    · refine j_aload_0 17 dX6_above_16 rfl ?_
      refine j_iconst 18 dX6_above_17 ?_
      refine j_callV 21 Y_X6_refuse [0, 1] [_] (c_X6_refuse E _ _ _ _ _ _ _ _ _ _ 2 (by decide)) m_X6_refuse wml_X6_59 dX6_above_18 0 rfl rfl rfl rfl rfl rfl rfl rfl rfl (fun r N h => by obtain ⟨rfl, rfl⟩ := h; rfl) (fun r N h => ?_)
      obtain ⟨rfl, rfl⟩ := h
      obtain rfl : c = 2 := by omega
      exact j_iret dX6_above_21 rfl rfl ⟨rfl, rfl⟩
  · omega

set_option maxRecDepth 100000 in
set_option maxHeartbeats 4000000 in
theorem c_X6_above_ok (E : jD) (h0 : Nat) (h1 : Nat) (x0 : Nat) (g0 : Nat) (h10 : Nat) (y0 : Nat) (h42 : Nat) (x1 : Nat) (x2 : Nat) (x3 : Nat) (x4 : Nat) (x6 : Nat) (fnd : Int) (ask : Int) (wd : Int) (bl : Int) (fm : Nat → Int) (f : Nat → Int32) (n : Nat) (i : Nat) (d : Int) (hn : -1 ≤ (n : Int) ∧ (n : Int) ≤ 48) (hi : i < n) (hd : 0 ≤ d) (hdr : jr d) : MC E Y_X6_above [.ref h0, .int (iI (i : Int)), .int (iI d)] [(h0, jO 6 [.ref h1, .ref x0, .ref g0, .ref h10, .ref y0, .ref h42, .int (iI fnd), .int (iI ask)]), (h42, jA E 5 (aI fm)), (x0, jO 3 [.ref x1, .ref x3, .ref x4, .ref x6, .int (iI wd), .int (iI bl)]), (x1, jO 4 [.ref x2, .int (iI (n : Int))]), (x2, jA E 48 f)] (fun rr N0 => rr = some (.int (iI (anF (tI f) n (min d.toNat n) i))) ∧ N0 = [(h0, jO 6 [.ref h1, .ref x0, .ref g0, .ref h10, .ref y0, .ref h42, .int (iI fnd), .int (iI ask)]), (h42, jA E 5 (aI fm)), (x0, jO 3 [.ref x1, .ref x3, .ref x4, .ref x6, .int (iI wd), .int (iI bl)]), (x1, jO 4 [.ref x2, .int (iI (n : Int))]), (x2, jA E 48 f)]) := by
  refine MC.of (by decide) rfl rfl ?_
  refine j_aload_0 1 dX6_above_0 rfl ?_
  refine j_iload_1 2 dX6_above_1 rfl ?_
  refine j_callVi 5 Y_X6_refusalOfItem [0, 1, 2, 3] [_] (c_X6_refusalOfItem_ok E _ _ _ _ _ _ _ _ _ _ _ _ _ _ _ _ _ _ _ hn (by omega)) m_X6_refusalOfItem wml_X6_101 dX6_above_2 0 rfl rfl rfl rfl rfl rfl rfl rfl rfl rfl ?_
  refine j_istore_3 6 (lv' := [(0, _), (1, _), (2, _), (3, _)]) dX6_above_5 rfl ⟨rfl, rfl⟩ ?_
  refine j_iload_3 7 dX6_above_6 rfl ?_
  refine j_if_eq 12 10 dX6_above_7 (by first | with_reducible exact iI_rng _ | with_reducible exact bI_r _ | exact ⟨by omega, by omega⟩) (fun q7 => ?_) (fun q7 => ?_)
  · refine j_iload_2 13 dX6_above_12 rfl ?_
    refine j_if_ge 22 16 dX6_above_13 (by first | with_reducible exact iI_rng _ | with_reducible exact bI_r _ | exact ⟨by omega, by omega⟩) (fun q13 => ?_) (fun q13 => ?_)
    · refine j_aload_0 23 dX6_above_22 rfl ?_
      refine j_get 26 0 gf_X6_26 dX6_above_23 rfl rfl ?_
      refine j_iload_1 27 dX6_above_26 rfl ?_
      refine j_iload_2 28 dX6_above_27 rfl ?_
      refine j_callVi 31 Y_X3_ancestor [2, 3, 4] [_, _] (c_X3_ancestor E _ _ _ _ _ _ _ _ _ _ _ _ (by omega) hi hd hdr) m_X3_ancestor wml_X6_182 dX6_above_28 0 rfl rfl rfl rfl rfl rfl rfl rfl rfl rfl ?_
      exact j_iret dX6_above_31 rfl rfl ⟨rfl, rfl⟩
    · omega
  · omega

set_option maxRecDepth 100000 in
set_option maxHeartbeats 4000000 in
theorem c_X6_alike_no (E : jD) (h0 : Nat) (h1 : Nat) (x0 : Nat) (g0 : Nat) (h10 : Nat) (y0 : Nat) (h42 : Nat) (x1 : Nat) (x2 : Nat) (x3 : Nat) (x4 : Nat) (x6 : Nat) (fnd : Int) (ask : Int) (wd : Int) (bl : Int) (n : Int) (fm : Nat → Int) (i j m c : Int) (hn : -1 ≤ n ∧ n ≤ 48) (hi : jr i) (hj : jr j) (hm : jr m) (hc : (n < 0 ∧ c = -2) ∨ (0 ≤ n ∧ (i < 0 ∨ m < 0 ∨ n - i < m ∨ j < 0 ∨ n - j < m) ∧ c = 2)) : MC E Y_X6_alike [.ref h0, .int (iI i), .int (iI j), .int (iI m)] [(h0, jO 6 [.ref h1, .ref x0, .ref g0, .ref h10, .ref y0, .ref h42, .int (iI fnd), .int (iI ask)]), (h42, jA E 5 (aI fm)), (x0, jO 3 [.ref x1, .ref x3, .ref x4, .ref x6, .int (iI wd), .int (iI bl)]), (x1, jO 4 [.ref x2, .int (iI n)])] (fun rr N0 => rr = some (.int (iI (rz c))) ∧ N0 = [(h0, jO 6 [.ref h1, .ref x0, .ref g0, .ref h10, .ref y0, .ref h42, .int (iI (rf c fnd)), .int (iI ask)]), (h42, jA E 5 (aI (rm c fm))), (x0, jO 3 [.ref x1, .ref x3, .ref x4, .ref x6, .int (iI wd), .int (iI bl)]), (x1, jO 4 [.ref x2, .int (iI n)])]) := by
  refine MC.of (by decide) rfl rfl ?_
  refine j_aload_0 1 dX6_alike_0 rfl ?_
  refine j_get 4 0 gf_X6_26 dX6_alike_1 rfl rfl ?_
  refine j_callVi 7 Y_X3_isNone [2, 3] [] (c_X3_isNone E _ _ _ _ _ _ _ _ _ (by exact ⟨by omega, by omega⟩)) m_X3_isNone wml_X6_125 dX6_alike_4 0 rfl rfl rfl rfl rfl rfl rfl rfl rfl rfl ?_
  refine j_bif_eq 13 10 dX6_alike_7 (fun q7 => ?_) (fun q7 => ?_)
  · refine j_aload_0 14 dX6_alike_13 rfl ?_
    refine j_get 17 0 gf_X6_26 dX6_alike_14 rfl rfl ?_
    refine j_get 20 2 gf_X6_104 dX6_alike_17 rfl rfl ?_
    refine j_iload_1 21 dX6_alike_20 rfl ?_
    refine j_iload_3 22 dX6_alike_21 rfl ?_
    refine j_callVi 25 Y_X4_lacksSome [3] [_, _] (c_X4_lacksSome E _ _ _ _ _ hn (by first | with_reducible assumption | exact ⟨by omega, by omega⟩) (by first | with_reducible assumption | exact ⟨by omega, by omega⟩)) m_X4_lacksSome wml_X6_81 dX6_alike_22 0 rfl rfl rfl rfl rfl rfl rfl rfl rfl rfl ?_
    refine j_bif_ne 43 28 dX6_alike_25 (fun q25 => ?_) (fun q25 => ?_)
    · refine j_aload_0 44 dX6_alike_43 rfl ?_
      refine j_iconst 45 dX6_alike_44 ?_
      refine j_callV 48 Y_X6_refuse [0, 1] [_] (c_X6_refuse E _ _ _ _ _ _ _ _ _ _ 2 (by decide)) m_X6_refuse wml_X6_59 dX6_alike_45 0 rfl rfl rfl rfl rfl rfl rfl rfl rfl (fun r N h => by obtain ⟨rfl, rfl⟩ := h; rfl) (fun r N h => ?_)
      obtain ⟨rfl, rfl⟩ := h
      obtain rfl : c = 2 := by omega
      exact j_iret dX6_alike_48 rfl rfl ⟨rfl, rfl⟩
    · refine j_aload_0 29 dX6_alike_28 rfl ?_
      refine j_get 32 0 gf_X6_26 dX6_alike_29 rfl rfl ?_
      refine j_get 35 2 gf_X6_104 dX6_alike_32 rfl rfl ?_
      refine j_iload_2 36 dX6_alike_35 rfl ?_
      refine j_iload_3 37 dX6_alike_36 rfl ?_
      refine j_callVi 40 Y_X4_lacksSome [3] [_, _] (c_X4_lacksSome E _ _ _ _ _ hn (by first | with_reducible assumption | exact ⟨by omega, by omega⟩) (by first | with_reducible assumption | exact ⟨by omega, by omega⟩)) m_X4_lacksSome wml_X6_81 dX6_alike_37 0 rfl rfl rfl rfl rfl rfl rfl rfl rfl rfl ?_
      refine j_bif_eq 49 43 dX6_alike_40 (fun q40 => ?_) (fun q40 => ?_)
      · omega
      · refine j_aload_0 44 dX6_alike_43 rfl ?_
        refine j_iconst 45 dX6_alike_44 ?_
        refine j_callV 48 Y_X6_refuse [0, 1] [_] (c_X6_refuse E _ _ _ _ _ _ _ _ _ _ 2 (by decide)) m_X6_refuse wml_X6_59 dX6_alike_45 0 rfl rfl rfl rfl rfl rfl rfl rfl rfl (fun r N h => by obtain ⟨rfl, rfl⟩ := h; rfl) (fun r N h => ?_)
        obtain ⟨rfl, rfl⟩ := h
        obtain rfl : c = 2 := by omega
        exact j_iret dX6_alike_48 rfl rfl ⟨rfl, rfl⟩
  · refine j_bipush 12 dX6_alike_10 (by decide +kernel) ?_
    obtain rfl : c = -2 := by omega
    exact j_iret dX6_alike_12 rfl rfl ⟨rfl, rfl⟩

set_option maxRecDepth 100000 in
set_option maxHeartbeats 4000000 in
theorem c_X6_alike_ok (E : jD) (h0 : Nat) (h1 : Nat) (x0 : Nat) (g0 : Nat) (h10 : Nat) (y0 : Nat) (h42 : Nat) (x1 : Nat) (x2 : Nat) (x3 : Nat) (x4 : Nat) (x6 : Nat) (fnd : Int) (ask : Int) (wd : Int) (bl : Int) (fm : Nat → Int) (f : Nat → Int32) (n : Nat) (i j m : Nat) (hn : -1 ≤ (n : Int) ∧ (n : Int) ≤ 48) (hi : i + m ≤ n) (hj : j + m ≤ n) : MC E Y_X6_alike [.ref h0, .int (iI (i : Int)), .int (iI (j : Int)), .int (iI (m : Int))] [(h0, jO 6 [.ref h1, .ref x0, .ref g0, .ref h10, .ref y0, .ref h42, .int (iI fnd), .int (iI ask)]), (h42, jA E 5 (aI fm)), (x0, jO 3 [.ref x1, .ref x3, .ref x4, .ref x6, .int (iI wd), .int (iI bl)]), (x1, jO 4 [.ref x2, .int (iI (n : Int))]), (x2, jA E 48 f)] (fun rr N0 => rr = some (.int (iI (bI (∀ k, k < m → stF (tI f) i (i + k) = stF (tI f) j (j + k))))) ∧ N0 = [(h0, jO 6 [.ref h1, .ref x0, .ref g0, .ref h10, .ref y0, .ref h42, .int (iI fnd), .int (iI ask)]), (h42, jA E 5 (aI fm)), (x0, jO 3 [.ref x1, .ref x3, .ref x4, .ref x6, .int (iI wd), .int (iI bl)]), (x1, jO 4 [.ref x2, .int (iI (n : Int))]), (x2, jA E 48 f)]) := by
  refine MC.of (by decide) rfl rfl ?_
  refine j_aload_0 1 dX6_alike_0 rfl ?_
  refine j_get 4 0 gf_X6_26 dX6_alike_1 rfl rfl ?_
  refine j_callVi 7 Y_X3_isNone [2, 3] [] (c_X3_isNone E _ _ _ _ _ _ _ _ _ (by exact ⟨by omega, by omega⟩)) m_X3_isNone wml_X6_125 dX6_alike_4 0 rfl rfl rfl rfl rfl rfl rfl rfl rfl rfl ?_
  refine j_bif_eq 13 10 dX6_alike_7 (fun q7 => ?_) (fun q7 => ?_)
  · refine j_aload_0 14 dX6_alike_13 rfl ?_
    refine j_get 17 0 gf_X6_26 dX6_alike_14 rfl rfl ?_
    refine j_get 20 2 gf_X6_104 dX6_alike_17 rfl rfl ?_
    refine j_iload_1 21 dX6_alike_20 rfl ?_
    refine j_iload_3 22 dX6_alike_21 rfl ?_
    refine j_callVi 25 Y_X4_lacksSome [3] [_, _] (c_X4_lacksSome E _ _ _ _ _ hn (by first | with_reducible assumption | exact ⟨by omega, by omega⟩) (by first | with_reducible assumption | exact ⟨by omega, by omega⟩)) m_X4_lacksSome wml_X6_81 dX6_alike_22 0 rfl rfl rfl rfl rfl rfl rfl rfl rfl rfl ?_
    refine j_bif_ne 43 28 dX6_alike_25 (fun q25 => ?_) (fun q25 => ?_)
    · omega
    · refine j_aload_0 29 dX6_alike_28 rfl ?_
      refine j_get 32 0 gf_X6_26 dX6_alike_29 rfl rfl ?_
      refine j_get 35 2 gf_X6_104 dX6_alike_32 rfl rfl ?_
      refine j_iload_2 36 dX6_alike_35 rfl ?_
      refine j_iload_3 37 dX6_alike_36 rfl ?_
      refine j_callVi 40 Y_X4_lacksSome [3] [_, _] (c_X4_lacksSome E _ _ _ _ _ hn (by first | with_reducible assumption | exact ⟨by omega, by omega⟩) (by first | with_reducible assumption | exact ⟨by omega, by omega⟩)) m_X4_lacksSome wml_X6_81 dX6_alike_37 0 rfl rfl rfl rfl rfl rfl rfl rfl rfl rfl ?_
      refine j_bif_eq 49 43 dX6_alike_40 (fun q40 => ?_) (fun q40 => ?_)
      · refine j_aload_0 50 dX6_alike_49 rfl ?_
        refine j_get 53 0 gf_X6_26 dX6_alike_50 rfl rfl ?_
        refine j_iload_1 54 dX6_alike_53 rfl ?_
        refine j_iload_2 55 dX6_alike_54 rfl ?_
        refine j_iload_3 56 dX6_alike_55 rfl ?_
        refine j_callVi 59 Y_X3_areAlike [2, 3, 4] [_, _, _] (c_X3_areAlike E _ _ _ _ _ _ _ _ _ _ _ _ _ (by omega) (by omega)) m_X3_areAlike wml_X6_185 dX6_alike_56 0 rfl rfl rfl rfl rfl rfl rfl rfl rfl rfl ?_
        refine j_bif_eq 66 62 dX6_alike_59 (fun q59 => ?_) (fun q59 => ?_)
        · refine j_iconst 67 dX6_alike_66 ?_
          exact j_iret dX6_alike_67 rfl rfl ⟨congrArg (fun z => some (Value.int (iI z))) (by first | exact (bI_t q59).symm | exact (bI_f q59).symm), rfl⟩
        · refine j_iconst 63 dX6_alike_62 ?_
          refine j_goto 67 dX6_alike_63 ?_
          exact j_iret dX6_alike_67 rfl rfl ⟨congrArg (fun z => some (Value.int (iI z))) (by first | exact (bI_t q59).symm | exact (bI_f q59).symm), rfl⟩
      · omega
  · omega

set_option maxRecDepth 100000 in
set_option maxHeartbeats 4000000 in
theorem c_X6_shape_no (E : jD) (h0 : Nat) (h1 : Nat) (x0 : Nat) (g0 : Nat) (h10 : Nat) (y0 : Nat) (h42 : Nat) (x1 : Nat) (x2 : Nat) (x3 : Nat) (x4 : Nat) (x6 : Nat) (fnd : Int) (ask : Int) (wd : Int) (bl : Int) (n : Int) (fm : Nat → Int) (q c : Int) (hn : -1 ≤ n ∧ n ≤ 48) (hbl : 0 ≤ bl ∧ bl ≤ 48) (hq0 : jr q) (hc : (n < 0 ∧ c = -2) ∨ (0 ≤ n ∧ (q < 0 ∨ bl ≤ q) ∧ c = 2)) : MC E Y_X6_shape [.ref h0, .int (iI q)] [(h0, jO 6 [.ref h1, .ref x0, .ref g0, .ref h10, .ref y0, .ref h42, .int (iI fnd), .int (iI ask)]), (h42, jA E 5 (aI fm)), (x0, jO 3 [.ref x1, .ref x3, .ref x4, .ref x6, .int (iI wd), .int (iI bl)]), (x1, jO 4 [.ref x2, .int (iI n)])] (fun rr N0 => rr = some (.int (iI (rz c))) ∧ N0 = [(h0, jO 6 [.ref h1, .ref x0, .ref g0, .ref h10, .ref y0, .ref h42, .int (iI (rf c fnd)), .int (iI ask)]), (h42, jA E 5 (aI (rm c fm))), (x0, jO 3 [.ref x1, .ref x3, .ref x4, .ref x6, .int (iI wd), .int (iI bl)]), (x1, jO 4 [.ref x2, .int (iI n)])]) := by
  refine MC.of (by decide) rfl rfl ?_
  refine j_aload_0 1 dX6_shape_0 rfl ?_
  refine j_get 4 0 gf_X6_26 dX6_shape_1 rfl rfl ?_
  refine j_callVi 7 Y_X3_isNone [2, 3] [] (c_X3_isNone E _ _ _ _ _ _ _ _ _ (by exact ⟨by omega, by omega⟩)) m_X3_isNone wml_X6_125 dX6_shape_4 0 rfl rfl rfl rfl rfl rfl rfl rfl rfl rfl ?_
  refine j_bif_eq 13 10 dX6_shape_7 (fun q7 => ?_) (fun q7 => ?_)
  · refine j_iload_1 14 dX6_shape_13 rfl ?_
    refine j_if_lt 28 17 dX6_shape_14 (by first | with_reducible exact iI_rng _ | with_reducible exact bI_r _ | exact ⟨by omega, by omega⟩) (fun q14 => ?_) (fun q14 => ?_)
    · refine j_aload_0 29 dX6_shape_28 rfl ?_
      refine j_iconst 30 dX6_shape_29 ?_
      refine j_callV 33 Y_X6_refuse [0, 1] [_] (c_X6_refuse E _ _ _ _ _ _ _ _ _ _ 2 (by decide)) m_X6_refuse wml_X6_59 dX6_shape_30 0 rfl rfl rfl rfl rfl rfl rfl rfl rfl (fun r N h => by obtain ⟨rfl, rfl⟩ := h; rfl) (fun r N h => ?_)
      obtain ⟨rfl, rfl⟩ := h
      obtain rfl : c = 2 := by omega
      exact j_iret dX6_shape_33 rfl rfl ⟨rfl, rfl⟩
    · refine j_iload_1 18 dX6_shape_17 rfl ?_
      refine j_aload_0 19 dX6_shape_18 rfl ?_
      refine j_get 22 0 gf_X6_26 dX6_shape_19 rfl rfl ?_
      refine j_get 25 2 gf_X6_98 dX6_shape_22 rfl rfl ?_
      refine j_icmp_lt 34 28 dX6_shape_25 (by first | with_reducible exact iI_rng _ | with_reducible exact bI_r _ | exact ⟨by omega, by omega⟩) (by first | with_reducible exact iI_rng _ | with_reducible exact bI_r _ | exact ⟨by omega, by omega⟩) (fun q25 => ?_) (fun q25 => ?_)
      · omega
      · refine j_aload_0 29 dX6_shape_28 rfl ?_
        refine j_iconst 30 dX6_shape_29 ?_
        refine j_callV 33 Y_X6_refuse [0, 1] [_] (c_X6_refuse E _ _ _ _ _ _ _ _ _ _ 2 (by decide)) m_X6_refuse wml_X6_59 dX6_shape_30 0 rfl rfl rfl rfl rfl rfl rfl rfl rfl (fun r N h => by obtain ⟨rfl, rfl⟩ := h; rfl) (fun r N h => ?_)
        obtain ⟨rfl, rfl⟩ := h
        obtain rfl : c = 2 := by omega
        exact j_iret dX6_shape_33 rfl rfl ⟨rfl, rfl⟩
  · refine j_bipush 12 dX6_shape_10 (by decide +kernel) ?_
    obtain rfl : c = -2 := by omega
    exact j_iret dX6_shape_12 rfl rfl ⟨rfl, rfl⟩

set_option maxRecDepth 100000 in
set_option maxHeartbeats 4000000 in
theorem c_X6_shape_ok (E : jD) (h0 : Nat) (h1 : Nat) (x0 : Nat) (g0 : Nat) (h10 : Nat) (y0 : Nat) (h42 : Nat) (x1 : Nat) (x2 : Nat) (x3 : Nat) (x4 : Nat) (x6 : Nat) (fnd : Int) (ask : Int) (wd : Int) (n : Int) (fm : Nat → Int) (sh : Nat → Int32) (nb q : Nat) (hn : -1 ≤ n ∧ n ≤ 48) (hn0 : 0 ≤ n) (hnb : nb ≤ 48) (hq0 : q < nb) : MC E Y_X6_shape [.ref h0, .int (iI (q : Int))] [(h0, jO 6 [.ref h1, .ref x0, .ref g0, .ref h10, .ref y0, .ref h42, .int (iI fnd), .int (iI ask)]), (h42, jA E 5 (aI fm)), (x0, jO 3 [.ref x1, .ref x3, .ref x4, .ref x6, .int (iI wd), .int (iI ((nb : Nat) : Int))]), (x1, jO 4 [.ref x2, .int (iI n)]), (x3, jA E 48 sh)] (fun rr N0 => rr = some (.int (iI ((sh q).toInt))) ∧ N0 = [(h0, jO 6 [.ref h1, .ref x0, .ref g0, .ref h10, .ref y0, .ref h42, .int (iI fnd), .int (iI ask)]), (h42, jA E 5 (aI fm)), (x0, jO 3 [.ref x1, .ref x3, .ref x4, .ref x6, .int (iI wd), .int (iI ((nb : Nat) : Int))]), (x1, jO 4 [.ref x2, .int (iI n)]), (x3, jA E 48 sh)]) := by
  refine MC.of (by decide) rfl rfl ?_
  refine j_aload_0 1 dX6_shape_0 rfl ?_
  refine j_get 4 0 gf_X6_26 dX6_shape_1 rfl rfl ?_
  refine j_callVi 7 Y_X3_isNone [2, 3] [] (c_X3_isNone E _ _ _ _ _ _ _ _ _ (by exact ⟨by omega, by omega⟩)) m_X3_isNone wml_X6_125 dX6_shape_4 0 rfl rfl rfl rfl rfl rfl rfl rfl rfl rfl ?_
  refine j_bif_eq 13 10 dX6_shape_7 (fun q7 => ?_) (fun q7 => ?_)
  · refine j_iload_1 14 dX6_shape_13 rfl ?_
    refine j_if_lt 28 17 dX6_shape_14 (by first | with_reducible exact iI_rng _ | with_reducible exact bI_r _ | exact ⟨by omega, by omega⟩) (fun q14 => ?_) (fun q14 => ?_)
    · omega
    · refine j_iload_1 18 dX6_shape_17 rfl ?_
      refine j_aload_0 19 dX6_shape_18 rfl ?_
      refine j_get 22 0 gf_X6_26 dX6_shape_19 rfl rfl ?_
      refine j_get 25 2 gf_X6_98 dX6_shape_22 rfl rfl ?_
      refine j_icmp_lt 34 28 dX6_shape_25 (by first | with_reducible exact iI_rng _ | with_reducible exact bI_r _ | exact ⟨by omega, by omega⟩) (by first | with_reducible exact iI_rng _ | with_reducible exact bI_r _ | exact ⟨by omega, by omega⟩) (fun q25 => ?_) (fun q25 => ?_)
      · refine j_aload_0 35 dX6_shape_34 rfl ?_
        refine j_get 38 0 gf_X6_26 dX6_shape_35 rfl rfl ?_
        refine j_get 41 2 gf_X6_137 dX6_shape_38 rfl rfl ?_
        refine j_iload_1 42 dX6_shape_41 rfl ?_
        refine j_iald 43 4 _ dX6_shape_42 rfl rfl rfl (by omega) ?_
        exact j_iret dX6_shape_43 rfl rfl ⟨rfl, rfl⟩
      · omega
  · omega

theorem bc_tab2 : ∀ a, a < 64 → ∀ b, b < 64 → bcX (iI ((64 * a + b : Nat) : Int)) = iI (((List.range 12).countP (fun k => (64 * a + b).testBit k) : Nat) : Int) := by decide +kernel
theorem bc_tab (s : Nat) (hs : s < 4096) : bcX (iI ((s : Nat) : Int)) = iI (((List.range 12).countP (fun k => s.testBit k) : Nat) : Int) := by
  have h := bc_tab2 (s / 64) (by omega) (s % 64) (by omega)
  rw [show 64 * (s / 64) + s % 64 = s by omega] at h
  exact h
def ones (s : Nat) : Nat := (List.range 12).countP (fun k => s.testBit k)
theorem ones_le (s : Nat) : ones s ≤ 12 := by
  have := List.countP_le_length (p := fun k => s.testBit k) (l := List.range 12)
  simpa [ones] using this
theorem c_bitCount (E : jD) (s : Nat) (hs : s < 4096) : MC E Y_J6_bitCount_0f7a4 [.int (iI (s : Int))] [] (fun rr N0 => rr = some (.int (iI ((ones s : Nat) : Int))) ∧ N0 = []) := by
  have h := c_J6_bitCount_0f7a4 E (iI (s : Int))
  rw [bc_tab s hs] at h
  exact h

set_option maxRecDepth 100000 in
set_option maxHeartbeats 4000000 in
theorem c_X6_entry_state (E : jD) (h0 : Nat) (h1 : Nat) (x0 : Nat) (g0 : Nat) (h10 : Nat) (y0 : Nat) (h42 : Nat) (x1 : Nat) (x2 : Nat) (x3 : Nat) (x4 : Nat) (x5 : Nat) (x6 : Nat) (fnd : Int) (ask : Int) (wd : Int) (bl : Int) (n : Int) (mm : Int) (fm : Nat → Int) (w : Nat → Int64) (s i j c : Int) (hn : n = -1) (hc : c = -2) : MC E Y_X6_entry [.ref h0, .int (iI s), .int (iI i), .int (iI j)] [(h0, jO 6 [.ref h1, .ref x0, .ref g0, .ref h10, .ref y0, .ref h42, .int (iI fnd), .int (iI ask)]), (h42, jA E 5 (aI fm)), (x0, jO 3 [.ref x1, .ref x3, .ref x4, .ref x6, .int (iI wd), .int (iI bl)]), (x1, jO 4 [.ref x2, .int (iI n)]), (x4, jO 5 [.ref x5, .int (iI mm)]), (x5, jL E 64 w)] (fun rr N0 => rr = some (.int (iI (rz c))) ∧ N0 = [(h0, jO 6 [.ref h1, .ref x0, .ref g0, .ref h10, .ref y0, .ref h42, .int (iI fnd), .int (iI ask)]), (h42, jA E 5 (aI fm)), (x0, jO 3 [.ref x1, .ref x3, .ref x4, .ref x6, .int (iI wd), .int (iI bl)]), (x1, jO 4 [.ref x2, .int (iI n)]), (x4, jO 5 [.ref x5, .int (iI mm)]), (x5, jL E 64 w)]) := by
  refine MC.of (by decide) rfl rfl ?_
  refine j_aload_0 1 dX6_entry_0 rfl ?_
  refine j_get 4 0 gf_X6_26 dX6_entry_1 rfl rfl ?_
  refine j_callVi 7 Y_X3_isNone [2, 3] [] (c_X3_isNone E _ _ _ _ _ _ _ _ _ (by exact ⟨by omega, by omega⟩)) m_X3_isNone wml_X6_125 dX6_entry_4 0 rfl rfl rfl rfl rfl rfl rfl rfl rfl rfl ?_
  refine j_bif_eq 13 10 dX6_entry_7 (fun q7 => ?_) (fun q7 => ?_)
  · omega
  · refine j_bipush 12 dX6_entry_10 (by decide +kernel) ?_
    obtain rfl : c = -2 := by omega
    exact j_iret dX6_entry_12 rfl rfl ⟨rfl, rfl⟩

set_option maxRecDepth 100000 in
set_option maxHeartbeats 4000000 in
theorem c_X6_entry_bad (E : jD) (h0 : Nat) (h1 : Nat) (x0 : Nat) (g0 : Nat) (h10 : Nat) (y0 : Nat) (h42 : Nat) (x1 : Nat) (x2 : Nat) (x3 : Nat) (x4 : Nat) (x5 : Nat) (x6 : Nat) (fnd : Int) (ask : Int) (wd : Int) (bl : Int) (n : Int) (mm : Int) (fm : Nat → Int) (w : Nat → Int64) (s i j c : Int) (hn : 0 ≤ n ∧ n ≤ 48) (hs : jr s) (hb : ¬ (0 ≤ s ∧ s < 4096 ∧ wB w s.toNat = true)) (hc : c = -1) : MC E Y_X6_entry [.ref h0, .int (iI s), .int (iI i), .int (iI j)] [(h0, jO 6 [.ref h1, .ref x0, .ref g0, .ref h10, .ref y0, .ref h42, .int (iI fnd), .int (iI ask)]), (h42, jA E 5 (aI fm)), (x0, jO 3 [.ref x1, .ref x3, .ref x4, .ref x6, .int (iI wd), .int (iI bl)]), (x1, jO 4 [.ref x2, .int (iI n)]), (x4, jO 5 [.ref x5, .int (iI mm)]), (x5, jL E 64 w)] (fun rr N0 => rr = some (.int (iI (rz c))) ∧ N0 = [(h0, jO 6 [.ref h1, .ref x0, .ref g0, .ref h10, .ref y0, .ref h42, .int (iI fnd), .int (iI ask)]), (h42, jA E 5 (aI fm)), (x0, jO 3 [.ref x1, .ref x3, .ref x4, .ref x6, .int (iI wd), .int (iI bl)]), (x1, jO 4 [.ref x2, .int (iI n)]), (x4, jO 5 [.ref x5, .int (iI mm)]), (x5, jL E 64 w)]) := by
  refine MC.of (by decide) rfl rfl ?_
  refine j_aload_0 1 dX6_entry_0 rfl ?_
  refine j_get 4 0 gf_X6_26 dX6_entry_1 rfl rfl ?_
  refine j_callVi 7 Y_X3_isNone [2, 3] [] (c_X3_isNone E _ _ _ _ _ _ _ _ _ (by exact ⟨by omega, by omega⟩)) m_X3_isNone wml_X6_125 dX6_entry_4 0 rfl rfl rfl rfl rfl rfl rfl rfl rfl rfl ?_
  refine j_bif_eq 13 10 dX6_entry_7 (fun q7 => ?_) (fun q7 => ?_)
  · refine j_aload_0 14 dX6_entry_13 rfl ?_
    refine j_get 17 0 gf_X6_26 dX6_entry_14 rfl rfl ?_
    refine j_get 20 2 gf_X6_140 dX6_entry_17 rfl rfl ?_
    refine j_iload_1 21 dX6_entry_20 rfl ?_
    refine j_callVi 24 Y_X5_has [4, 5] [_] (c_X5_has E _ _ _ _ _ hs) m_X5_has wml_X6_144 dX6_entry_21 0 rfl rfl rfl rfl rfl rfl rfl rfl rfl rfl ?_
    refine j_bif_ne 29 27 dX6_entry_24 (fun q24 => ?_) (fun q24 => ?_)
    · exact absurd q24 hb
    · refine j_iconst 28 dX6_entry_27 ?_
      obtain rfl : c = -1 := by omega
      exact j_iret dX6_entry_28 rfl rfl ⟨rfl, rfl⟩
  · omega

set_option maxRecDepth 100000 in
set_option maxHeartbeats 4000000 in
theorem c_X6_entry_bey (E : jD) (h0 : Nat) (h1 : Nat) (x0 : Nat) (g0 : Nat) (h10 : Nat) (y0 : Nat) (h42 : Nat) (x1 : Nat) (x2 : Nat) (x3 : Nat) (x4 : Nat) (x5 : Nat) (x6 : Nat) (fnd : Int) (ask : Int) (wd : Int) (bl : Int) (n : Int) (mm : Int) (fm : Nat → Int) (w : Nat → Int64) (s : Nat) (i j c : Int) (hn : 0 ≤ n ∧ n ≤ 48) (hs4 : s < 4096) (hb : wB w s = true) (hi : jr i) (hj : jr j) (hc : (i < 0 ∨ j < i ∨ (ones s : Int) - 1 ≤ j) ∧ c = 2) : MC E Y_X6_entry [.ref h0, .int (iI (s : Int)), .int (iI i), .int (iI j)] [(h0, jO 6 [.ref h1, .ref x0, .ref g0, .ref h10, .ref y0, .ref h42, .int (iI fnd), .int (iI ask)]), (h42, jA E 5 (aI fm)), (x0, jO 3 [.ref x1, .ref x3, .ref x4, .ref x6, .int (iI wd), .int (iI bl)]), (x1, jO 4 [.ref x2, .int (iI n)]), (x4, jO 5 [.ref x5, .int (iI mm)]), (x5, jL E 64 w)] (fun rr N0 => rr = some (.int (iI (rz c))) ∧ N0 = [(h0, jO 6 [.ref h1, .ref x0, .ref g0, .ref h10, .ref y0, .ref h42, .int (iI (rf c fnd)), .int (iI ask)]), (h42, jA E 5 (aI (rm c fm))), (x0, jO 3 [.ref x1, .ref x3, .ref x4, .ref x6, .int (iI wd), .int (iI bl)]), (x1, jO 4 [.ref x2, .int (iI n)]), (x4, jO 5 [.ref x5, .int (iI mm)]), (x5, jL E 64 w)]) := by
  refine MC.of (by decide) rfl rfl ?_
  have ho := ones_le s
  refine j_aload_0 1 dX6_entry_0 rfl ?_
  refine j_get 4 0 gf_X6_26 dX6_entry_1 rfl rfl ?_
  refine j_callVi 7 Y_X3_isNone [2, 3] [] (c_X3_isNone E _ _ _ _ _ _ _ _ _ (by exact ⟨by omega, by omega⟩)) m_X3_isNone wml_X6_125 dX6_entry_4 0 rfl rfl rfl rfl rfl rfl rfl rfl rfl rfl ?_
  refine j_bif_eq 13 10 dX6_entry_7 (fun q7 => ?_) (fun q7 => ?_)
  · refine j_aload_0 14 dX6_entry_13 rfl ?_
    refine j_get 17 0 gf_X6_26 dX6_entry_14 rfl rfl ?_
    refine j_get 20 2 gf_X6_140 dX6_entry_17 rfl rfl ?_
    refine j_iload_1 21 dX6_entry_20 rfl ?_
    refine j_callVi 24 Y_X5_has [4, 5] [_] (c_X5_has E _ _ _ _ _ (by exact ⟨by omega, by omega⟩)) m_X5_has wml_X6_144 dX6_entry_21 0 rfl rfl rfl rfl rfl rfl rfl rfl rfl rfl ?_
    refine j_bif_ne 29 27 dX6_entry_24 (fun q24 => ?_) (fun q24 => ?_)
    · refine j_iload_1 30 dX6_entry_29 rfl ?_
      refine j_callSi 33 Y_J6_bitCount_0f7a4 [] [_] (c_bitCount E s hs4) m_J6_bitCount_0f7a4 wml_X6_149 dX6_entry_30 rfl rfl rfl rfl rfl rfl rfl ?_
      refine j_iconst 34 dX6_entry_33 ?_
      refine j_isub 35 dX6_entry_34 ?_
      refine j_istore 37 (lv' := [(0, _), (1, _), (2, _), (3, _), (4, _)]) dX6_entry_35 rfl ⟨rfl, rfl⟩ ?_
      refine j_iload_2 38 dX6_entry_37 rfl ?_
      refine j_if_lt 52 41 dX6_entry_38 (by first | with_reducible exact iI_rng _ | with_reducible exact bI_r _ | exact ⟨by omega, by omega⟩) (fun q38 => ?_) (fun q38 => ?_)
      · refine j_aload_0 53 dX6_entry_52 rfl ?_
        refine j_iconst 54 dX6_entry_53 ?_
        refine j_callV 57 Y_X6_refuse [0, 1] [_] (c_X6_refuse E _ _ _ _ _ _ _ _ _ _ 2 (by decide)) m_X6_refuse wml_X6_59 dX6_entry_54 0 rfl rfl rfl rfl rfl rfl rfl rfl rfl (fun r N h => by obtain ⟨rfl, rfl⟩ := h; rfl) (fun r N h => ?_)
        obtain ⟨rfl, rfl⟩ := h
        obtain rfl : c = 2 := by omega
        exact j_iret dX6_entry_57 rfl rfl ⟨rfl, rfl⟩
      · refine j_iload_3 42 dX6_entry_41 rfl ?_
        refine j_iload_2 43 dX6_entry_42 rfl ?_
        refine j_icmp_lt 52 46 dX6_entry_43 (by first | with_reducible exact iI_rng _ | with_reducible exact bI_r _ | exact ⟨by omega, by omega⟩) (by first | with_reducible exact iI_rng _ | with_reducible exact bI_r _ | exact ⟨by omega, by omega⟩) (fun q43 => ?_) (fun q43 => ?_)
        · refine j_aload_0 53 dX6_entry_52 rfl ?_
          refine j_iconst 54 dX6_entry_53 ?_
          refine j_callV 57 Y_X6_refuse [0, 1] [_] (c_X6_refuse E _ _ _ _ _ _ _ _ _ _ 2 (by decide)) m_X6_refuse wml_X6_59 dX6_entry_54 0 rfl rfl rfl rfl rfl rfl rfl rfl rfl (fun r N h => by obtain ⟨rfl, rfl⟩ := h; rfl) (fun r N h => ?_)
          obtain ⟨rfl, rfl⟩ := h
          obtain rfl : c = 2 := by omega
          exact j_iret dX6_entry_57 rfl rfl ⟨rfl, rfl⟩
        · refine j_iload_3 47 dX6_entry_46 rfl ?_
          refine j_iload 49 dX6_entry_47 rfl ?_
          refine j_icmp_lt 58 52 dX6_entry_49 (by first | with_reducible exact iI_rng _ | with_reducible exact bI_r _ | exact ⟨by omega, by omega⟩) (by first | with_reducible exact iI_rng _ | with_reducible exact bI_r _ | exact ⟨by omega, by omega⟩) (fun q49 => ?_) (fun q49 => ?_)
          · omega
          · refine j_aload_0 53 dX6_entry_52 rfl ?_
            refine j_iconst 54 dX6_entry_53 ?_
            refine j_callV 57 Y_X6_refuse [0, 1] [_] (c_X6_refuse E _ _ _ _ _ _ _ _ _ _ 2 (by decide)) m_X6_refuse wml_X6_59 dX6_entry_54 0 rfl rfl rfl rfl rfl rfl rfl rfl rfl (fun r N h => by obtain ⟨rfl, rfl⟩ := h; rfl) (fun r N h => ?_)
            obtain ⟨rfl, rfl⟩ := h
            obtain rfl : c = 2 := by omega
            exact j_iret dX6_entry_57 rfl rfl ⟨rfl, rfl⟩
    · exact absurd ⟨by omega, by omega, hb⟩ q24
  · omega

set_option maxRecDepth 100000 in
set_option maxHeartbeats 4000000 in
theorem c_X6_entry_ok (E : jD) (h0 : Nat) (h1 : Nat) (x0 : Nat) (g0 : Nat) (h10 : Nat) (y0 : Nat) (h42 : Nat) (x1 : Nat) (x2 : Nat) (x3 : Nat) (x4 : Nat) (x5 : Nat) (x6 : Nat) (fnd : Int) (ask : Int) (wd : Int) (bl : Int) (n : Int) (mm : Int) (fm : Nat → Int) (pl : Nat → Int32) (w : Nat → Int64) (s : Nat) (i j : Int) (hn : 0 ≤ n ∧ n ≤ 48) (hs4 : s < 4096) (hb : wB w s = true) (hij : 0 ≤ i ∧ i ≤ j ∧ j < (ones s : Int) - 1) (hj6 : j ≤ 6) : MC E Y_X6_entry [.ref h0, .int (iI (s : Int)), .int (iI i), .int (iI j)] [(h0, jO 6 [.ref h1, .ref x0, .ref g0, .ref h10, .ref y0, .ref h42, .int (iI fnd), .int (iI ask)]), (h42, jA E 5 (aI fm)), (x0, jO 3 [.ref x1, .ref x3, .ref x4, .ref x6, .int (iI wd), .int (iI bl)]), (x1, jO 4 [.ref x2, .int (iI n)]), (x4, jO 5 [.ref x5, .int (iI mm)]), (x5, jL E 64 w), (x6, jA E 6 pl)] (fun rr N0 => ∃ pl2, rr = some (.int (iI (teF s i j))) ∧ N0 = [(h0, jO 6 [.ref h1, .ref x0, .ref g0, .ref h10, .ref y0, .ref h42, .int (iI fnd), .int (iI ask)]), (h42, jA E 5 (aI fm)), (x0, jO 3 [.ref x1, .ref x3, .ref x4, .ref x6, .int (iI wd), .int (iI bl)]), (x1, jO 4 [.ref x2, .int (iI n)]), (x4, jO 5 [.ref x5, .int (iI mm)]), (x5, jL E 64 w), (x6, jA E 6 pl2)]) := by
  refine MC.of (by decide) rfl rfl ?_
  have ho := ones_le s
  refine j_aload_0 1 dX6_entry_0 rfl ?_
  refine j_get 4 0 gf_X6_26 dX6_entry_1 rfl rfl ?_
  refine j_callVi 7 Y_X3_isNone [2, 3] [] (c_X3_isNone E _ _ _ _ _ _ _ _ _ (by exact ⟨by omega, by omega⟩)) m_X3_isNone wml_X6_125 dX6_entry_4 0 rfl rfl rfl rfl rfl rfl rfl rfl rfl rfl ?_
  refine j_bif_eq 13 10 dX6_entry_7 (fun q7 => ?_) (fun q7 => ?_)
  · refine j_aload_0 14 dX6_entry_13 rfl ?_
    refine j_get 17 0 gf_X6_26 dX6_entry_14 rfl rfl ?_
    refine j_get 20 2 gf_X6_140 dX6_entry_17 rfl rfl ?_
    refine j_iload_1 21 dX6_entry_20 rfl ?_
    refine j_callVi 24 Y_X5_has [4, 5] [_] (c_X5_has E _ _ _ _ _ (by exact ⟨by omega, by omega⟩)) m_X5_has wml_X6_144 dX6_entry_21 0 rfl rfl rfl rfl rfl rfl rfl rfl rfl rfl ?_
    refine j_bif_ne 29 27 dX6_entry_24 (fun q24 => ?_) (fun q24 => ?_)
    · refine j_iload_1 30 dX6_entry_29 rfl ?_
      refine j_callSi 33 Y_J6_bitCount_0f7a4 [] [_] (c_bitCount E s hs4) m_J6_bitCount_0f7a4 wml_X6_149 dX6_entry_30 rfl rfl rfl rfl rfl rfl rfl ?_
      refine j_iconst 34 dX6_entry_33 ?_
      refine j_isub 35 dX6_entry_34 ?_
      refine j_istore 37 (lv' := [(0, _), (1, _), (2, _), (3, _), (4, _)]) dX6_entry_35 rfl ⟨rfl, rfl⟩ ?_
      refine j_iload_2 38 dX6_entry_37 rfl ?_
      refine j_if_lt 52 41 dX6_entry_38 (by first | with_reducible exact iI_rng _ | with_reducible exact bI_r _ | exact ⟨by omega, by omega⟩) (fun q38 => ?_) (fun q38 => ?_)
      · omega
      · refine j_iload_3 42 dX6_entry_41 rfl ?_
        refine j_iload_2 43 dX6_entry_42 rfl ?_
        refine j_icmp_lt 52 46 dX6_entry_43 (by first | with_reducible exact iI_rng _ | with_reducible exact bI_r _ | exact ⟨by omega, by omega⟩) (by first | with_reducible exact iI_rng _ | with_reducible exact bI_r _ | exact ⟨by omega, by omega⟩) (fun q43 => ?_) (fun q43 => ?_)
        · omega
        · refine j_iload_3 47 dX6_entry_46 rfl ?_
          refine j_iload 49 dX6_entry_47 rfl ?_
          refine j_icmp_lt 58 52 dX6_entry_49 (by first | with_reducible exact iI_rng _ | with_reducible exact bI_r _ | exact ⟨by omega, by omega⟩) (by first | with_reducible exact iI_rng _ | with_reducible exact bI_r _ | exact ⟨by omega, by omega⟩) (fun q49 => ?_) (fun q49 => ?_)
          · refine j_aload_0 59 dX6_entry_58 rfl ?_
            refine j_get 62 0 gf_X6_26 dX6_entry_59 rfl rfl ?_
            refine j_iload_1 63 dX6_entry_62 rfl ?_
            refine j_iload_2 64 dX6_entry_63 rfl ?_
            refine j_iload_3 65 dX6_entry_64 rfl ?_
            refine j_callV 68 Y_X3_tableEntry [2, 6] [_, _, _] (c_X3_tableEntry E _ _ _ _ _ _ _ _ _ _ _ hs4 (by exact ⟨by omega, by omega⟩) (by omega)) m_X3_tableEntry wml_X6_154 dX6_entry_65 0 rfl rfl rfl rfl rfl rfl rfl rfl rfl (fun r N h => by obtain ⟨_, rfl, rfl⟩ := h; rfl) (fun r N h => ?_)
            obtain ⟨pl2, rfl, rfl⟩ := h
            exact j_iret dX6_entry_68 rfl rfl ⟨pl2, rfl, rfl⟩
          · omega
    · exact absurd ⟨by omega, by omega, hb⟩ q24
  · omega

def suF (g : Nat → Int) (n : Nat) : Nat → Int64
  | 0 => 0
  | k + 1 => suF g n k + (iI (g k)).toInt64 * (iI (ownF g n k)).toInt64

set_option maxRecDepth 100000 in
set_option maxHeartbeats 4000000 in
theorem lp_sum (E : jD) (h0 : Nat) (h1 : Nat) (x0 : Nat) (g0 : Nat) (h10 : Nat) (y0 : Nat) (h42 : Nat) (x1 : Nat) (x2 : Nat) (x3 : Nat) (x4 : Nat) (x6 : Nat) (fnd : Int) (ask : Int) (wd : Int) (bl : Int) (f : Nat → Int32) (n : Nat) (hn : n ≤ 48) : ∀ (d : Nat) (k : Nat), n - k < d → (k ≤ n) → J E Y_X6_sum (jZm E Y_X6_sum (fun rr N0 => rr = some (.long (suF (tI f) n n)) ∧ N0 = [(h0, jO 6 [.ref h1, .ref x0, .ref g0, .ref h10, .ref y0, .ref h42, .int (iI fnd), .int (iI ask)]), (x0, jO 3 [.ref x1, .ref x3, .ref x4, .ref x6, .int (iI wd), .int (iI bl)]), (x1, jO 4 [.ref x2, .int (iI (n : Int))]), (x2, jA E 48 f)])) 0 0 4 [(0, .ref h0), (1, .long (suF (tI f) n k)), (3, .int (iI (k : Int)))] [] [(h0, jO 6 [.ref h1, .ref x0, .ref g0, .ref h10, .ref y0, .ref h42, .int (iI fnd), .int (iI ask)]), (x0, jO 3 [.ref x1, .ref x3, .ref x4, .ref x6, .int (iI wd), .int (iI bl)]), (x1, jO 4 [.ref x2, .int (iI (n : Int))]), (x2, jA E 48 f)] := by
  intro d
  induction d with
  | zero => intros; omega
  | succ d ih =>
    intro k hd hk
    refine j_iload_3 5 dX6_sum_4 rfl ?_
    refine j_aload_0 6 dX6_sum_5 rfl ?_
    refine j_get 9 0 gf_X6_26 dX6_sum_6 rfl rfl ?_
    refine j_get 12 1 gf_X6_104 dX6_sum_9 rfl rfl ?_
    refine j_get 15 2 gf_X6_78 dX6_sum_12 rfl rfl ?_
    refine j_icmp_ge 50 18 dX6_sum_15 (by first | with_reducible exact iI_rng _ | with_reducible exact bI_r _ | exact ⟨by omega, by omega⟩) (by first | with_reducible exact iI_rng _ | with_reducible exact bI_r _ | exact ⟨by omega, by omega⟩) (fun q15 => ?_) (fun q15 => ?_)
    · have e0 : k = n := by omega
      subst e0
      refine j_lload_1 51 dX6_sum_50 rfl ?_
      exact j_lret dX6_sum_51 rfl rfl ⟨rfl, rfl⟩
    · refine j_lload_1 19 dX6_sum_18 rfl ?_
      refine j_aload_0 20 dX6_sum_19 rfl ?_
      refine j_get 23 0 gf_X6_26 dX6_sum_20 rfl rfl ?_
      refine j_get 26 1 gf_X6_104 dX6_sum_23 rfl rfl ?_
      refine j_get 29 2 gf_X6_71 dX6_sum_26 rfl rfl ?_
      refine j_iload_3 30 dX6_sum_29 rfl ?_
      refine j_iald 31 3 _ dX6_sum_30 rfl rfl rfl (by omega) ?_
      refine j_i2l 32 dX6_sum_31 ?_
      refine j_aload_0 33 dX6_sum_32 rfl ?_
      refine j_get 36 0 gf_X6_26 dX6_sum_33 rfl rfl ?_
      refine j_iload_3 37 dX6_sum_36 rfl ?_
      refine j_callVi 40 Y_X3_runsOwned [1, 2, 3] [_] (c_X3_runsOwned E _ _ _ _ _ _ _ _ _ _ _ hn (by omega)) m_X3_runsOwned wml_X6_173 dX6_sum_37 0 rfl rfl rfl rfl rfl rfl rfl rfl rfl rfl ?_
      refine j_i2l 41 dX6_sum_40 ?_
      refine j_lmul 42 dX6_sum_41 ?_
      refine j_ladd 43 dX6_sum_42 ?_
      refine j_lstore_1 44 (lv' := [(0, _), (1, _), (3, _)]) dX6_sum_43 rfl ⟨rfl, rfl, rfl⟩ ?_
      refine j_iinc 47 (lv' := [(0, _), (1, _), (3, _)]) dX6_sum_44 rfl rfl ⟨rfl, rfl⟩ ?_
      refine j_goto 4 dX6_sum_47 ?_
      exact ih (k + 1) (by omega) (by omega)

set_option maxRecDepth 100000 in
set_option maxHeartbeats 4000000 in
theorem c_X6_sum_ok (E : jD) (h0 : Nat) (h1 : Nat) (x0 : Nat) (g0 : Nat) (h10 : Nat) (y0 : Nat) (h42 : Nat) (x1 : Nat) (x2 : Nat) (x3 : Nat) (x4 : Nat) (x6 : Nat) (fnd : Int) (ask : Int) (wd : Int) (bl : Int) (f : Nat → Int32) (n : Nat) (hn : n ≤ 48) : MC E Y_X6_sum [.ref h0] [(h0, jO 6 [.ref h1, .ref x0, .ref g0, .ref h10, .ref y0, .ref h42, .int (iI fnd), .int (iI ask)]), (x0, jO 3 [.ref x1, .ref x3, .ref x4, .ref x6, .int (iI wd), .int (iI bl)]), (x1, jO 4 [.ref x2, .int (iI (n : Int))]), (x2, jA E 48 f)] (fun rr N0 => rr = some (.long (suF (tI f) n n)) ∧ N0 = [(h0, jO 6 [.ref h1, .ref x0, .ref g0, .ref h10, .ref y0, .ref h42, .int (iI fnd), .int (iI ask)]), (x0, jO 3 [.ref x1, .ref x3, .ref x4, .ref x6, .int (iI wd), .int (iI bl)]), (x1, jO 4 [.ref x2, .int (iI (n : Int))]), (x2, jA E 48 f)]) := by
  refine MC.of (by decide) rfl rfl ?_
  refine j_lconst 1 0 dX6_sum_0 rfl ?_
  refine j_lstore_1 2 (lv' := [(0, _), (1, _)]) dX6_sum_1 rfl ⟨rfl, rfl, rfl⟩ ?_
  refine j_iconst 3 dX6_sum_2 ?_
  refine j_istore_3 4 (lv' := [(0, _), (1, _), (3, _)]) dX6_sum_3 rfl ⟨rfl, rfl⟩ ?_
  exact lp_sum E h0 h1 x0 g0 h10 y0 h42 x1 x2 x3 x4 x6 fnd ask wd bl f n hn (n + 1) 0 (by omega) (by omega)

set_option maxRecDepth 100000 in
set_option maxHeartbeats 4000000 in
theorem c_X6_sum_none (E : jD) (h0 : Nat) (h1 : Nat) (x0 : Nat) (g0 : Nat) (h10 : Nat) (y0 : Nat) (h42 : Nat) (x1 : Nat) (x2 : Nat) (x3 : Nat) (x4 : Nat) (x6 : Nat) (fnd : Int) (ask : Int) (wd : Int) (bl : Int) (n : Int)  (hn : n = -1) : MC E Y_X6_sum [.ref h0] [(h0, jO 6 [.ref h1, .ref x0, .ref g0, .ref h10, .ref y0, .ref h42, .int (iI fnd), .int (iI ask)]), (x0, jO 3 [.ref x1, .ref x3, .ref x4, .ref x6, .int (iI wd), .int (iI bl)]), (x1, jO 4 [.ref x2, .int (iI n)])] (fun rr N0 => rr = some (.long (0)) ∧ N0 = [(h0, jO 6 [.ref h1, .ref x0, .ref g0, .ref h10, .ref y0, .ref h42, .int (iI fnd), .int (iI ask)]), (x0, jO 3 [.ref x1, .ref x3, .ref x4, .ref x6, .int (iI wd), .int (iI bl)]), (x1, jO 4 [.ref x2, .int (iI n)])]) := by
  refine MC.of (by decide) rfl rfl ?_
  refine j_lconst 1 0 dX6_sum_0 rfl ?_
  refine j_lstore_1 2 (lv' := [(0, _), (1, _)]) dX6_sum_1 rfl ⟨rfl, rfl, rfl⟩ ?_
  refine j_iconst 3 dX6_sum_2 ?_
  refine j_istore_3 4 (lv' := [(0, _), (1, _), (3, _)]) dX6_sum_3 rfl ⟨rfl, rfl⟩ ?_
  refine j_iload_3 5 dX6_sum_4 rfl ?_
  refine j_aload_0 6 dX6_sum_5 rfl ?_
  refine j_get 9 0 gf_X6_26 dX6_sum_6 rfl rfl ?_
  refine j_get 12 1 gf_X6_104 dX6_sum_9 rfl rfl ?_
  refine j_get 15 2 gf_X6_78 dX6_sum_12 rfl rfl ?_
  refine j_icmp_ge 50 18 dX6_sum_15 (by first | with_reducible exact iI_rng _ | with_reducible exact bI_r _ | exact ⟨by omega, by omega⟩) (by first | with_reducible exact iI_rng _ | with_reducible exact bI_r _ | exact ⟨by omega, by omega⟩) (fun q15 => ?_) (fun q15 => ?_)
  · refine j_lload_1 51 dX6_sum_50 rfl ?_
    exact j_lret dX6_sum_51 rfl rfl ⟨rfl, rfl⟩
  · omega

set_option maxRecDepth 100000 in
set_option maxHeartbeats 4000000 in
theorem c_X6_meet_ok (E : jD) (h0 : Nat) (h1 : Nat) (x0 : Nat) (g0 : Nat) (h10 : Nat) (y0 : Nat) (h42 : Nat) (y1 : Nat) (y2 : Nat) (y3 : Nat) (y4 : Nat) (y5 : Nat) (y6 : Nat) (y8 : Nat) (y9 : Nat) (y10 : Nat) (y11 : Nat) (y12 : Nat) (y14 : Nat) (fnd : Int) (ask : Int) (tw : Int) (tb : Int) (fm : Nat → Int) (fi : Nat → Int32) (mt : Nat → Int32) (tf : Nat → Int32) (nd tn u v a0 b0 : Nat) (hnd : 0 ≤ (nd : Int) ∧ (nd : Int) ≤ 24) (hu : u < nd) (hv : v < nd) (ha : fi u = iI (a0 : Int)) (hb : fi v = iI (b0 : Int)) (ha2 : a0 < 47) (hb2 : b0 < 47) : MC E Y_X6_meet [.ref h0, .int (iI (u : Int)), .int (iI (v : Int))] [(h0, jO 6 [.ref h1, .ref x0, .ref g0, .ref h10, .ref y0, .ref h42, .int (iI fnd), .int (iI ask)]), (h42, jA E 5 (aI fm)), (y0, jO 0 [.ref y1, .ref y2, .ref y3, .ref y4, .ref y5, .ref y6, .ref y8, .int (iI (nd : Int))]), (y4, jA E 24 fi), (y5, jA E 47 mt), (y8, jO 3 [.ref y9, .ref y11, .ref y12, .ref y14, .int (iI tw), .int (iI tb)]), (y9, jO 4 [.ref y10, .int (iI (tn : Int))]), (y10, jA E 48 tf)] (fun rr N0 => rr = some (.int (iI ((mt (lsF (tI tf) (min a0 b0) (max a0 b0 - min a0 b0))).toInt))) ∧ N0 = [(h0, jO 6 [.ref h1, .ref x0, .ref g0, .ref h10, .ref y0, .ref h42, .int (iI fnd), .int (iI ask)]), (h42, jA E 5 (aI fm)), (y0, jO 0 [.ref y1, .ref y2, .ref y3, .ref y4, .ref y5, .ref y6, .ref y8, .int (iI (nd : Int))]), (y4, jA E 24 fi), (y5, jA E 47 mt), (y8, jO 3 [.ref y9, .ref y11, .ref y12, .ref y14, .int (iI tw), .int (iI tb)]), (y9, jO 4 [.ref y10, .int (iI (tn : Int))]), (y10, jA E 48 tf)]) := by
  refine MC.of (by decide) rfl rfl ?_
  refine j_aload_0 1 dX6_meet_0 rfl ?_
  refine j_iload_1 2 dX6_meet_1 rfl ?_
  refine j_iload_2 3 dX6_meet_2 rfl ?_
  refine j_callVi 6 Y_X6_refusalOfNodes [0, 1, 2] [_, _] (c_X6_refusalOfNodes_ok E _ _ _ _ _ _ _ _ _ _ _ _ _ _ _ _ _ _ _ _ hnd (by omega) (by omega)) m_X6_refusalOfNodes wml_X6_199 dX6_meet_3 0 rfl rfl rfl rfl rfl rfl rfl rfl rfl rfl ?_
  refine j_istore_3 7 (lv' := [(0, _), (1, _), (2, _), (3, _)]) dX6_meet_6 rfl ⟨rfl, rfl⟩ ?_
  refine j_iload_3 8 dX6_meet_7 rfl ?_
  refine j_if_eq 13 11 dX6_meet_8 (by first | with_reducible exact iI_rng _ | with_reducible exact bI_r _ | exact ⟨by omega, by omega⟩) (fun q8 => ?_) (fun q8 => ?_)
  · refine j_aload_0 14 dX6_meet_13 rfl ?_
    refine j_get 17 0 gf_X6_40 dX6_meet_14 rfl rfl ?_
    refine j_iload_1 18 dX6_meet_17 rfl ?_
    refine j_iload_2 19 dX6_meet_18 rfl ?_
    refine j_callVi 22 Y_X0_meetingNode [2, 3, 4, 5, 6, 7] [_, _] (c_X0_meetingNode E _ _ _ _ _ _ _ _ _ _ _ _ _ _ _ _ _ _ _ _ _ _ a0 b0 (by omega) (by omega) ha hb ha2 hb2) m_X0_meetingNode wml_X6_202 dX6_meet_19 0 rfl rfl rfl rfl rfl rfl rfl rfl rfl rfl ?_
    exact j_iret dX6_meet_22 rfl rfl ⟨rfl, rfl⟩
  · omega

set_option maxRecDepth 100000 in
set_option maxHeartbeats 4000000 in
theorem c_X6_apart_ok (E : jD) (h0 : Nat) (h1 : Nat) (x0 : Nat) (g0 : Nat) (h10 : Nat) (y0 : Nat) (h42 : Nat) (y1 : Nat) (y2 : Nat) (y3 : Nat) (y4 : Nat) (y5 : Nat) (y6 : Nat) (y8 : Nat) (y9 : Nat) (y10 : Nat) (y11 : Nat) (y12 : Nat) (y14 : Nat) (fnd : Int) (ask : Int) (tw : Int) (tb : Int) (fm : Nat → Int) (de : Nat → Int32) (fi : Nat → Int32) (mt : Nat → Int32) (tf : Nat → Int32) (nd tn u v a0 b0 t0 : Nat) (du dv dt : Int) (hnd : 0 ≤ (nd : Int) ∧ (nd : Int) ≤ 24) (hu : u < nd) (hv : v < nd) (ha : fi u = iI (a0 : Int)) (hb : fi v = iI (b0 : Int)) (ha2 : a0 < 47) (hb2 : b0 < 47) (hmt : mt (lsF (tI tf) (min a0 b0) (max a0 b0 - min a0 b0)) = iI (t0 : Int)) (ht0 : t0 < 24) (hdu : de u = iI du) (hdv : de v = iI dv) (hdt : de t0 = iI dt) : MC E Y_X6_apart [.ref h0, .int (iI (u : Int)), .int (iI (v : Int))] [(h0, jO 6 [.ref h1, .ref x0, .ref g0, .ref h10, .ref y0, .ref h42, .int (iI fnd), .int (iI ask)]), (h42, jA E 5 (aI fm)), (y0, jO 0 [.ref y1, .ref y2, .ref y3, .ref y4, .ref y5, .ref y6, .ref y8, .int (iI (nd : Int))]), (y4, jA E 24 fi), (y5, jA E 47 mt), (y8, jO 3 [.ref y9, .ref y11, .ref y12, .ref y14, .int (iI tw), .int (iI tb)]), (y9, jO 4 [.ref y10, .int (iI (tn : Int))]), (y10, jA E 48 tf), (y2, jA E 24 de)] (fun rr N0 => rr = some (.int (iI (du + dv - 2 * dt))) ∧ N0 = [(h0, jO 6 [.ref h1, .ref x0, .ref g0, .ref h10, .ref y0, .ref h42, .int (iI fnd), .int (iI ask)]), (h42, jA E 5 (aI fm)), (y0, jO 0 [.ref y1, .ref y2, .ref y3, .ref y4, .ref y5, .ref y6, .ref y8, .int (iI (nd : Int))]), (y4, jA E 24 fi), (y5, jA E 47 mt), (y8, jO 3 [.ref y9, .ref y11, .ref y12, .ref y14, .int (iI tw), .int (iI tb)]), (y9, jO 4 [.ref y10, .int (iI (tn : Int))]), (y10, jA E 48 tf), (y2, jA E 24 de)]) := by
  refine MC.of (by decide) rfl rfl ?_
  refine j_aload_0 1 dX6_apart_0 rfl ?_
  refine j_iload_1 2 dX6_apart_1 rfl ?_
  refine j_iload_2 3 dX6_apart_2 rfl ?_
  refine j_callVi 6 Y_X6_refusalOfNodes [0, 1, 2] [_, _] (c_X6_refusalOfNodes_ok E _ _ _ _ _ _ _ _ _ _ _ _ _ _ _ _ _ _ _ _ hnd (by omega) (by omega)) m_X6_refusalOfNodes wml_X6_199 dX6_apart_3 0 rfl rfl rfl rfl rfl rfl rfl rfl rfl rfl ?_
  refine j_istore_3 7 (lv' := [(0, _), (1, _), (2, _), (3, _)]) dX6_apart_6 rfl ⟨rfl, rfl⟩ ?_
  refine j_iload_3 8 dX6_apart_7 rfl ?_
  refine j_if_eq 13 11 dX6_apart_8 (by first | with_reducible exact iI_rng _ | with_reducible exact bI_r _ | exact ⟨by omega, by omega⟩) (fun q8 => ?_) (fun q8 => ?_)
  · refine j_aload_0 14 dX6_apart_13 rfl ?_
    refine j_get 17 0 gf_X6_40 dX6_apart_14 rfl rfl ?_
    refine j_iload_1 18 dX6_apart_17 rfl ?_
    refine j_iload_2 19 dX6_apart_18 rfl ?_
    refine j_callVi 22 Y_X0_meetingNode [2, 3, 4, 5, 6, 7] [_, _] (c_X0_meetingNode E _ _ _ _ _ _ _ _ _ _ _ _ _ _ _ _ _ _ _ _ _ _ a0 b0 (by omega) (by omega) ha hb ha2 hb2) m_X0_meetingNode wml_X6_202 dX6_apart_19 0 rfl rfl rfl rfl rfl rfl rfl rfl rfl rfl ?_
    refine j_top (t0 : Int) (by rw [hmt]; exact congrArg iI (iI_t ⟨by omega, by omega⟩)) ?_
    refine j_istore 24 (lv' := [(0, _), (1, _), (2, _), (3, _), (4, _)]) dX6_apart_22 rfl ⟨rfl, rfl⟩ ?_
    refine j_aload_0 25 dX6_apart_24 rfl ?_
    refine j_get 28 0 gf_X6_40 dX6_apart_25 rfl rfl ?_
    refine j_get 31 2 gf_X6_205 dX6_apart_28 rfl rfl ?_
    refine j_iload_1 32 dX6_apart_31 rfl ?_
    refine j_ialdw 33 8 _ (du) dX6_apart_32 rfl rfl rfl (by omega) hdu ?_
    refine j_aload_0 34 dX6_apart_33 rfl ?_
    refine j_get 37 0 gf_X6_40 dX6_apart_34 rfl rfl ?_
    refine j_get 40 2 gf_X6_205 dX6_apart_37 rfl rfl ?_
    refine j_iload_2 41 dX6_apart_40 rfl ?_
    refine j_ialdw 42 8 _ (dv) dX6_apart_41 rfl rfl rfl (by omega) hdv ?_
    refine j_iadd 43 dX6_apart_42 ?_
    refine j_iconst 44 dX6_apart_43 ?_
    refine j_aload_0 45 dX6_apart_44 rfl ?_
    refine j_get 48 0 gf_X6_40 dX6_apart_45 rfl rfl ?_
    refine j_get 51 2 gf_X6_205 dX6_apart_48 rfl rfl ?_
    refine j_iload 53 dX6_apart_51 rfl ?_
    refine j_ialdw 54 8 (t0) (dt) dX6_apart_53 rfl rfl rfl (by omega) hdt ?_
    refine j_imul 55 dX6_apart_54 ?_
    refine j_isub 56 dX6_apart_55 ?_
    exact j_iret dX6_apart_56 rfl rfl ⟨rfl, rfl⟩
  · omega

set_option maxRecDepth 100000 in
set_option maxHeartbeats 4000000 in
theorem c_X6_up_bey (E : jD) (h0 : Nat) (h1 : Nat) (x0 : Nat) (g0 : Nat) (h10 : Nat) (y0 : Nat) (h42 : Nat) (y1 : Nat) (y2 : Nat) (y3 : Nat) (y4 : Nat) (y5 : Nat) (y6 : Nat) (y8 : Nat) (fnd : Int) (ask : Int) (nd : Int) (fm : Nat → Int) (u : Nat) (d c : Int) (hnd : 0 ≤ nd ∧ nd ≤ 24) (hu : (u : Int) < nd) (hd : jr d) (hc : d < 0 ∧ c = 2) : MC E Y_X6_up [.ref h0, .int (iI (u : Int)), .int (iI d)] [(h0, jO 6 [.ref h1, .ref x0, .ref g0, .ref h10, .ref y0, .ref h42, .int (iI fnd), .int (iI ask)]), (h42, jA E 5 (aI fm)), (y0, jO 0 [.ref y1, .ref y2, .ref y3, .ref y4, .ref y5, .ref y6, .ref y8, .int (iI nd)])] (fun rr N0 => rr = some (.int (iI (rz c))) ∧ N0 = [(h0, jO 6 [.ref h1, .ref x0, .ref g0, .ref h10, .ref y0, .ref h42, .int (iI (rf c fnd)), .int (iI ask)]), (h42, jA E 5 (aI (rm c fm))), (y0, jO 0 [.ref y1, .ref y2, .ref y3, .ref y4, .ref y5, .ref y6, .ref y8, .int (iI nd)])]) := by
  refine MC.of (by decide) rfl rfl ?_
  refine j_aload_0 1 dX6_up_0 rfl ?_
  refine j_iload_1 2 dX6_up_1 rfl ?_
  refine j_iload_1 3 dX6_up_2 rfl ?_
  refine j_callVi 6 Y_X6_refusalOfNodes [0, 1, 2] [_, _] (c_X6_refusalOfNodes_ok E _ _ _ _ _ _ _ _ _ _ _ _ _ _ _ _ _ _ _ _ hnd (by omega) (by omega)) m_X6_refusalOfNodes wml_X6_199 dX6_up_3 0 rfl rfl rfl rfl rfl rfl rfl rfl rfl rfl ?_
  refine j_istore_3 7 (lv' := [(0, _), (1, _), (2, _), (3, _)]) dX6_up_6 rfl ⟨rfl, rfl⟩ ?_
  refine j_iload_3 8 dX6_up_7 rfl ?_
  refine j_if_eq 13 11 dX6_up_8 (by first | with_reducible exact iI_rng _ | with_reducible exact bI_r _ | exact ⟨by omega, by omega⟩) (fun q8 => ?_) (fun q8 => ?_)
  · refine j_iload_2 14 dX6_up_13 rfl ?_
    refine j_if_ge 23 17 dX6_up_14 (by first | with_reducible exact iI_rng _ | with_reducible exact bI_r _ | exact ⟨by omega, by omega⟩) (fun q14 => ?_) (fun q14 => ?_)
    · omega
    · refine j_aload_0 18 dX6_up_17 rfl ?_
      refine j_iconst 19 dX6_up_18 ?_
      refine j_callV 22 Y_X6_refuse [0, 1] [_] (c_X6_refuse E _ _ _ _ _ _ _ _ _ _ 2 (by decide)) m_X6_refuse wml_X6_59 dX6_up_19 0 rfl rfl rfl rfl rfl rfl rfl rfl rfl (fun r N h => by obtain ⟨rfl, rfl⟩ := h; rfl) (fun r N h => ?_)
      obtain ⟨rfl, rfl⟩ := h
      obtain rfl : c = 2 := by omega
      exact j_iret dX6_up_22 rfl rfl ⟨rfl, rfl⟩
  · omega

set_option maxRecDepth 100000 in
set_option maxHeartbeats 4000000 in
theorem c_X6_up_ok (E : jD) (h0 : Nat) (h1 : Nat) (x0 : Nat) (g0 : Nat) (h10 : Nat) (y0 : Nat) (h42 : Nat) (y1 : Nat) (y2 : Nat) (y3 : Nat) (y4 : Nat) (y5 : Nat) (y6 : Nat) (y8 : Nat) (fnd : Int) (ask : Int) (fm : Nat → Int) (pa : Nat → Int32) (de : Nat → Int32) (nd u : Nat) (d : Int) (p : Nat → Int) (hnd : 0 ≤ (nd : Int) ∧ (nd : Int) ≤ 24) (hu : u < nd) (hpk : ∀ k, k < nd → (pa k).toInt = p k) (hp : inT p nd) (hde : ∀ k, k < nd → de k = iI (srF p nd k : Nat)) (hd : 0 ≤ d) (hdr : jr d) : MC E Y_X6_up [.ref h0, .int (iI (u : Int)), .int (iI d)] [(h0, jO 6 [.ref h1, .ref x0, .ref g0, .ref h10, .ref y0, .ref h42, .int (iI fnd), .int (iI ask)]), (h42, jA E 5 (aI fm)), (y0, jO 0 [.ref y1, .ref y2, .ref y3, .ref y4, .ref y5, .ref y6, .ref y8, .int (iI (nd : Int))]), (y1, jA E 24 pa), (y2, jA E 24 de)] (fun rr N0 => rr = some (.int (iI ((if (srF p nd u : Int) < d then -9 else ((upF p (srF p nd u - d.toNat) u : Nat) : Int))))) ∧ N0 = [(h0, jO 6 [.ref h1, .ref x0, .ref g0, .ref h10, .ref y0, .ref h42, .int (iI fnd), .int (iI ask)]), (h42, jA E 5 (aI fm)), (y0, jO 0 [.ref y1, .ref y2, .ref y3, .ref y4, .ref y5, .ref y6, .ref y8, .int (iI (nd : Int))]), (y1, jA E 24 pa), (y2, jA E 24 de)]) := by
  refine MC.of (by decide) rfl rfl ?_
  refine j_aload_0 1 dX6_up_0 rfl ?_
  refine j_iload_1 2 dX6_up_1 rfl ?_
  refine j_iload_1 3 dX6_up_2 rfl ?_
  refine j_callVi 6 Y_X6_refusalOfNodes [0, 1, 2] [_, _] (c_X6_refusalOfNodes_ok E _ _ _ _ _ _ _ _ _ _ _ _ _ _ _ _ _ _ _ _ hnd (by omega) (by omega)) m_X6_refusalOfNodes wml_X6_199 dX6_up_3 0 rfl rfl rfl rfl rfl rfl rfl rfl rfl rfl ?_
  refine j_istore_3 7 (lv' := [(0, _), (1, _), (2, _), (3, _)]) dX6_up_6 rfl ⟨rfl, rfl⟩ ?_
  refine j_iload_3 8 dX6_up_7 rfl ?_
  refine j_if_eq 13 11 dX6_up_8 (by first | with_reducible exact iI_rng _ | with_reducible exact bI_r _ | exact ⟨by omega, by omega⟩) (fun q8 => ?_) (fun q8 => ?_)
  · refine j_iload_2 14 dX6_up_13 rfl ?_
    refine j_if_ge 23 17 dX6_up_14 (by first | with_reducible exact iI_rng _ | with_reducible exact bI_r _ | exact ⟨by omega, by omega⟩) (fun q14 => ?_) (fun q14 => ?_)
    · refine j_aload_0 24 dX6_up_23 rfl ?_
      refine j_get 27 0 gf_X6_40 dX6_up_24 rfl rfl ?_
      refine j_iload_1 28 dX6_up_27 rfl ?_
      refine j_iload_2 29 dX6_up_28 rfl ?_
      refine j_callVi 32 Y_X0_ancestorAt [2, 3, 4] [_, _] (c_X0_ancestorAt E _ _ _ _ _ _ _ _ _ _ _ p _ _ (by omega) hpk hp hde hu hd hdr) m_X0_ancestorAt wml_X6_208 dX6_up_29 0 rfl rfl rfl rfl rfl rfl rfl rfl rfl rfl ?_
      exact j_iret dX6_up_32 rfl rfl ⟨rfl, rfl⟩
    · omega
  · omega

set_option maxRecDepth 100000 in
set_option maxHeartbeats 4000000 in
theorem c_X6_node_no (E : jD) (h0 : Nat) (h1 : Nat) (x0 : Nat) (g0 : Nat) (h10 : Nat) (y0 : Nat) (h42 : Nat) (y1 : Nat) (y2 : Nat) (y3 : Nat) (y4 : Nat) (y5 : Nat) (y6 : Nat) (y8 : Nat) (fnd : Int) (ask : Int) (nd : Int) (fm : Nat → Int) (u q c : Int) (hnd : 0 ≤ nd ∧ nd ≤ 24) (hu : jr u) (hq0 : jr q) (hc : (nd = 0 ∧ c = -2) ∨ (¬ nd = 0 ∧ (q < 0 ∨ 2 < q) ∧ c = -1) ∨ (¬ nd = 0 ∧ 0 ≤ q ∧ q ≤ 2 ∧ (u < 0 ∨ nd ≤ u) ∧ c = 2)) : MC E Y_X6_node [.ref h0, .int (iI u), .int (iI q)] [(h0, jO 6 [.ref h1, .ref x0, .ref g0, .ref h10, .ref y0, .ref h42, .int (iI fnd), .int (iI ask)]), (h42, jA E 5 (aI fm)), (y0, jO 0 [.ref y1, .ref y2, .ref y3, .ref y4, .ref y5, .ref y6, .ref y8, .int (iI nd)])] (fun rr N0 => rr = some (.int (iI (rz c))) ∧ N0 = [(h0, jO 6 [.ref h1, .ref x0, .ref g0, .ref h10, .ref y0, .ref h42, .int (iI (rf c fnd)), .int (iI ask)]), (h42, jA E 5 (aI (rm c fm))), (y0, jO 0 [.ref y1, .ref y2, .ref y3, .ref y4, .ref y5, .ref y6, .ref y8, .int (iI nd)])]) := by
  refine MC.of (by decide) rfl rfl ?_
  refine j_aload_0 1 dX6_node_0 rfl ?_
  refine j_get 4 0 gf_X6_40 dX6_node_1 rfl rfl ?_
  refine j_get 7 2 gf_X6_196 dX6_node_4 rfl rfl ?_
  refine j_if_ne 13 10 dX6_node_7 (by first | with_reducible exact iI_rng _ | with_reducible exact bI_r _ | exact ⟨by omega, by omega⟩) (fun q7 => ?_) (fun q7 => ?_)
  · refine j_iload_2 14 dX6_node_13 rfl ?_
    refine j_if_lt 22 17 dX6_node_14 (by first | with_reducible exact iI_rng _ | with_reducible exact bI_r _ | exact ⟨by omega, by omega⟩) (fun q14 => ?_) (fun q14 => ?_)
    · refine j_iconst 23 dX6_node_22 ?_
      obtain rfl : c = -1 := by omega
      exact j_iret dX6_node_23 rfl rfl ⟨rfl, rfl⟩
    · refine j_iload_2 18 dX6_node_17 rfl ?_
      refine j_iconst 19 dX6_node_18 ?_
      refine j_icmp_le 24 22 dX6_node_19 (by first | with_reducible exact iI_rng _ | with_reducible exact bI_r _ | exact ⟨by omega, by omega⟩) (by first | with_reducible exact iI_rng _ | with_reducible exact bI_r _ | exact ⟨by omega, by omega⟩) (fun q19 => ?_) (fun q19 => ?_)
      · refine j_aload_0 25 dX6_node_24 rfl ?_
        refine j_get 28 0 gf_X6_40 dX6_node_25 rfl rfl ?_
        refine j_iload_1 29 dX6_node_28 rfl ?_
        refine j_callVi 32 Y_X0_lacks [2] [_] (c_X0_lacks E _ _ _ _ _ _ _ _ _ _ (by exact ⟨by omega, by omega⟩) (by first | with_reducible assumption | exact ⟨by omega, by omega⟩)) m_X0_lacks wml_X6_211 dX6_node_29 0 rfl rfl rfl rfl rfl rfl rfl rfl rfl rfl ?_
        refine j_bif_eq 41 35 dX6_node_32 (fun q32 => ?_) (fun q32 => ?_)
        · omega
        · refine j_aload_0 36 dX6_node_35 rfl ?_
          refine j_iconst 37 dX6_node_36 ?_
          refine j_callV 40 Y_X6_refuse [0, 1] [_] (c_X6_refuse E _ _ _ _ _ _ _ _ _ _ 2 (by decide)) m_X6_refuse wml_X6_59 dX6_node_37 0 rfl rfl rfl rfl rfl rfl rfl rfl rfl (fun r N h => by obtain ⟨rfl, rfl⟩ := h; rfl) (fun r N h => ?_)
          obtain ⟨rfl, rfl⟩ := h
          obtain rfl : c = 2 := by omega
          exact j_iret dX6_node_40 rfl rfl ⟨rfl, rfl⟩
      · refine j_iconst 23 dX6_node_22 ?_
        obtain rfl : c = -1 := by omega
        exact j_iret dX6_node_23 rfl rfl ⟨rfl, rfl⟩
  · refine j_bipush 12 dX6_node_10 (by decide +kernel) ?_
    obtain rfl : c = -2 := by omega
    exact j_iret dX6_node_12 rfl rfl ⟨rfl, rfl⟩

set_option maxRecDepth 100000 in
set_option maxHeartbeats 4000000 in
theorem c_X6_node_0 (E : jD) (h0 : Nat) (h1 : Nat) (x0 : Nat) (g0 : Nat) (h10 : Nat) (y0 : Nat) (h42 : Nat) (y1 : Nat) (y2 : Nat) (y3 : Nat) (y4 : Nat) (y5 : Nat) (y6 : Nat) (y8 : Nat) (fnd : Int) (ask : Int) (de : Nat → Int32) (nd u : Nat) (z : Int) (hnd : nd ≤ 24) (hu : u < nd) (hz : de u = iI z) : MC E Y_X6_node [.ref h0, .int (iI (u : Int)), .int (iI 0)] [(h0, jO 6 [.ref h1, .ref x0, .ref g0, .ref h10, .ref y0, .ref h42, .int (iI fnd), .int (iI ask)]), (y0, jO 0 [.ref y1, .ref y2, .ref y3, .ref y4, .ref y5, .ref y6, .ref y8, .int (iI (nd : Int))]), (y2, jA E 24 de)] (fun rr N0 => rr = some (.int (iI (z))) ∧ N0 = [(h0, jO 6 [.ref h1, .ref x0, .ref g0, .ref h10, .ref y0, .ref h42, .int (iI fnd), .int (iI ask)]), (y0, jO 0 [.ref y1, .ref y2, .ref y3, .ref y4, .ref y5, .ref y6, .ref y8, .int (iI (nd : Int))]), (y2, jA E 24 de)]) := by
  refine MC.of (by decide) rfl rfl ?_
  refine j_aload_0 1 dX6_node_0 rfl ?_
  refine j_get 4 0 gf_X6_40 dX6_node_1 rfl rfl ?_
  refine j_get 7 1 gf_X6_196 dX6_node_4 rfl rfl ?_
  refine j_if_ne 13 10 dX6_node_7 (by first | with_reducible exact iI_rng _ | with_reducible exact bI_r _ | exact ⟨by omega, by omega⟩) (fun q7 => ?_) (fun q7 => ?_)
  · refine j_iload_2 14 dX6_node_13 rfl ?_
    refine j_if_lt 22 17 dX6_node_14 (by first | with_reducible exact iI_rng _ | with_reducible exact bI_r _ | exact ⟨by omega, by omega⟩) (fun q14 => ?_) (fun q14 => ?_)
    · omega
    · refine j_iload_2 18 dX6_node_17 rfl ?_
      refine j_iconst 19 dX6_node_18 ?_
      refine j_icmp_le 24 22 dX6_node_19 (by first | with_reducible exact iI_rng _ | with_reducible exact bI_r _ | exact ⟨by omega, by omega⟩) (by first | with_reducible exact iI_rng _ | with_reducible exact bI_r _ | exact ⟨by omega, by omega⟩) (fun q19 => ?_) (fun q19 => ?_)
      · refine j_aload_0 25 dX6_node_24 rfl ?_
        refine j_get 28 0 gf_X6_40 dX6_node_25 rfl rfl ?_
        refine j_iload_1 29 dX6_node_28 rfl ?_
        refine j_callVi 32 Y_X0_lacks [1] [_] (c_X0_lacks E _ _ _ _ _ _ _ _ _ _ (by exact ⟨by omega, by omega⟩) (by first | with_reducible assumption | exact ⟨by omega, by omega⟩)) m_X0_lacks wml_X6_211 dX6_node_29 0 rfl rfl rfl rfl rfl rfl rfl rfl rfl rfl ?_
        refine j_bif_eq 41 35 dX6_node_32 (fun q32 => ?_) (fun q32 => ?_)
        · refine j_iload_2 42 dX6_node_41 rfl ?_
          refine j_if_ne 55 45 dX6_node_42 (by first | with_reducible exact iI_rng _ | with_reducible exact bI_r _ | exact ⟨by omega, by omega⟩) (fun q42 => ?_) (fun q42 => ?_)
          · omega
          · refine j_aload_0 46 dX6_node_45 rfl ?_
            refine j_get 49 0 gf_X6_40 dX6_node_46 rfl rfl ?_
            refine j_get 52 1 gf_X6_205 dX6_node_49 rfl rfl ?_
            refine j_iload_1 53 dX6_node_52 rfl ?_
            refine j_ialdw 54 2 _ (z) dX6_node_53 rfl rfl rfl (by omega) hz ?_
            exact j_iret dX6_node_54 rfl rfl ⟨rfl, rfl⟩
        · omega
      · omega
  · omega

set_option maxRecDepth 100000 in
set_option maxHeartbeats 4000000 in
theorem c_X6_node_1 (E : jD) (h0 : Nat) (h1 : Nat) (x0 : Nat) (g0 : Nat) (h10 : Nat) (y0 : Nat) (h42 : Nat) (y1 : Nat) (y2 : Nat) (y3 : Nat) (y4 : Nat) (y5 : Nat) (y6 : Nat) (y8 : Nat) (fnd : Int) (ask : Int) (sz : Nat → Int32) (nd u : Nat) (z : Int) (hnd : nd ≤ 24) (hu : u < nd) (hz : sz u = iI z) : MC E Y_X6_node [.ref h0, .int (iI (u : Int)), .int (iI 1)] [(h0, jO 6 [.ref h1, .ref x0, .ref g0, .ref h10, .ref y0, .ref h42, .int (iI fnd), .int (iI ask)]), (y0, jO 0 [.ref y1, .ref y2, .ref y3, .ref y4, .ref y5, .ref y6, .ref y8, .int (iI (nd : Int))]), (y3, jA E 24 sz)] (fun rr N0 => rr = some (.int (iI (z))) ∧ N0 = [(h0, jO 6 [.ref h1, .ref x0, .ref g0, .ref h10, .ref y0, .ref h42, .int (iI fnd), .int (iI ask)]), (y0, jO 0 [.ref y1, .ref y2, .ref y3, .ref y4, .ref y5, .ref y6, .ref y8, .int (iI (nd : Int))]), (y3, jA E 24 sz)]) := by
  refine MC.of (by decide) rfl rfl ?_
  refine j_aload_0 1 dX6_node_0 rfl ?_
  refine j_get 4 0 gf_X6_40 dX6_node_1 rfl rfl ?_
  refine j_get 7 1 gf_X6_196 dX6_node_4 rfl rfl ?_
  refine j_if_ne 13 10 dX6_node_7 (by first | with_reducible exact iI_rng _ | with_reducible exact bI_r _ | exact ⟨by omega, by omega⟩) (fun q7 => ?_) (fun q7 => ?_)
  · refine j_iload_2 14 dX6_node_13 rfl ?_
    refine j_if_lt 22 17 dX6_node_14 (by first | with_reducible exact iI_rng _ | with_reducible exact bI_r _ | exact ⟨by omega, by omega⟩) (fun q14 => ?_) (fun q14 => ?_)
    · omega
    · refine j_iload_2 18 dX6_node_17 rfl ?_
      refine j_iconst 19 dX6_node_18 ?_
      refine j_icmp_le 24 22 dX6_node_19 (by first | with_reducible exact iI_rng _ | with_reducible exact bI_r _ | exact ⟨by omega, by omega⟩) (by first | with_reducible exact iI_rng _ | with_reducible exact bI_r _ | exact ⟨by omega, by omega⟩) (fun q19 => ?_) (fun q19 => ?_)
      · refine j_aload_0 25 dX6_node_24 rfl ?_
        refine j_get 28 0 gf_X6_40 dX6_node_25 rfl rfl ?_
        refine j_iload_1 29 dX6_node_28 rfl ?_
        refine j_callVi 32 Y_X0_lacks [1] [_] (c_X0_lacks E _ _ _ _ _ _ _ _ _ _ (by exact ⟨by omega, by omega⟩) (by first | with_reducible assumption | exact ⟨by omega, by omega⟩)) m_X0_lacks wml_X6_211 dX6_node_29 0 rfl rfl rfl rfl rfl rfl rfl rfl rfl rfl ?_
        refine j_bif_eq 41 35 dX6_node_32 (fun q32 => ?_) (fun q32 => ?_)
        · refine j_iload_2 42 dX6_node_41 rfl ?_
          refine j_if_ne 55 45 dX6_node_42 (by first | with_reducible exact iI_rng _ | with_reducible exact bI_r _ | exact ⟨by omega, by omega⟩) (fun q42 => ?_) (fun q42 => ?_)
          · refine j_iload_2 56 dX6_node_55 rfl ?_
            refine j_iconst 57 dX6_node_56 ?_
            refine j_icmp_ne 72 60 dX6_node_57 (by first | with_reducible exact iI_rng _ | with_reducible exact bI_r _ | exact ⟨by omega, by omega⟩) (by first | with_reducible exact iI_rng _ | with_reducible exact bI_r _ | exact ⟨by omega, by omega⟩) (fun q57 => ?_) (fun q57 => ?_)
            · omega
            · refine j_aload_0 61 dX6_node_60 rfl ?_
              refine j_get 64 0 gf_X6_40 dX6_node_61 rfl rfl ?_
              refine j_get 67 1 gf_X6_214 dX6_node_64 rfl rfl ?_
              refine j_iload_1 68 dX6_node_67 rfl ?_
              refine j_ialdw 69 2 _ (z) dX6_node_68 rfl rfl rfl (by omega) hz ?_
              refine j_goto 81 dX6_node_69 ?_
              exact j_iret dX6_node_81 rfl rfl ⟨rfl, rfl⟩
          · omega
        · omega
      · omega
  · omega

set_option maxRecDepth 100000 in
set_option maxHeartbeats 4000000 in
theorem c_X6_node_2 (E : jD) (h0 : Nat) (h1 : Nat) (x0 : Nat) (g0 : Nat) (h10 : Nat) (y0 : Nat) (h42 : Nat) (y1 : Nat) (y2 : Nat) (y3 : Nat) (y4 : Nat) (y5 : Nat) (y6 : Nat) (y8 : Nat) (fnd : Int) (ask : Int) (fi : Nat → Int32) (nd u : Nat) (z : Int) (hnd : nd ≤ 24) (hu : u < nd) (hz : fi u = iI z) : MC E Y_X6_node [.ref h0, .int (iI (u : Int)), .int (iI 2)] [(h0, jO 6 [.ref h1, .ref x0, .ref g0, .ref h10, .ref y0, .ref h42, .int (iI fnd), .int (iI ask)]), (y0, jO 0 [.ref y1, .ref y2, .ref y3, .ref y4, .ref y5, .ref y6, .ref y8, .int (iI (nd : Int))]), (y4, jA E 24 fi)] (fun rr N0 => rr = some (.int (iI (z))) ∧ N0 = [(h0, jO 6 [.ref h1, .ref x0, .ref g0, .ref h10, .ref y0, .ref h42, .int (iI fnd), .int (iI ask)]), (y0, jO 0 [.ref y1, .ref y2, .ref y3, .ref y4, .ref y5, .ref y6, .ref y8, .int (iI (nd : Int))]), (y4, jA E 24 fi)]) := by
  refine MC.of (by decide) rfl rfl ?_
  refine j_aload_0 1 dX6_node_0 rfl ?_
  refine j_get 4 0 gf_X6_40 dX6_node_1 rfl rfl ?_
  refine j_get 7 1 gf_X6_196 dX6_node_4 rfl rfl ?_
  refine j_if_ne 13 10 dX6_node_7 (by first | with_reducible exact iI_rng _ | with_reducible exact bI_r _ | exact ⟨by omega, by omega⟩) (fun q7 => ?_) (fun q7 => ?_)
  · refine j_iload_2 14 dX6_node_13 rfl ?_
    refine j_if_lt 22 17 dX6_node_14 (by first | with_reducible exact iI_rng _ | with_reducible exact bI_r _ | exact ⟨by omega, by omega⟩) (fun q14 => ?_) (fun q14 => ?_)
    · omega
    · refine j_iload_2 18 dX6_node_17 rfl ?_
      refine j_iconst 19 dX6_node_18 ?_
      refine j_icmp_le 24 22 dX6_node_19 (by first | with_reducible exact iI_rng _ | with_reducible exact bI_r _ | exact ⟨by omega, by omega⟩) (by first | with_reducible exact iI_rng _ | with_reducible exact bI_r _ | exact ⟨by omega, by omega⟩) (fun q19 => ?_) (fun q19 => ?_)
      · refine j_aload_0 25 dX6_node_24 rfl ?_
        refine j_get 28 0 gf_X6_40 dX6_node_25 rfl rfl ?_
        refine j_iload_1 29 dX6_node_28 rfl ?_
        refine j_callVi 32 Y_X0_lacks [1] [_] (c_X0_lacks E _ _ _ _ _ _ _ _ _ _ (by exact ⟨by omega, by omega⟩) (by first | with_reducible assumption | exact ⟨by omega, by omega⟩)) m_X0_lacks wml_X6_211 dX6_node_29 0 rfl rfl rfl rfl rfl rfl rfl rfl rfl rfl ?_
        refine j_bif_eq 41 35 dX6_node_32 (fun q32 => ?_) (fun q32 => ?_)
        · refine j_iload_2 42 dX6_node_41 rfl ?_
          refine j_if_ne 55 45 dX6_node_42 (by first | with_reducible exact iI_rng _ | with_reducible exact bI_r _ | exact ⟨by omega, by omega⟩) (fun q42 => ?_) (fun q42 => ?_)
          · refine j_iload_2 56 dX6_node_55 rfl ?_
            refine j_iconst 57 dX6_node_56 ?_
            refine j_icmp_ne 72 60 dX6_node_57 (by first | with_reducible exact iI_rng _ | with_reducible exact bI_r _ | exact ⟨by omega, by omega⟩) (by first | with_reducible exact iI_rng _ | with_reducible exact bI_r _ | exact ⟨by omega, by omega⟩) (fun q57 => ?_) (fun q57 => ?_)
            · refine j_aload_0 73 dX6_node_72 rfl ?_
              refine j_get 76 0 gf_X6_40 dX6_node_73 rfl rfl ?_
              refine j_get 79 1 gf_X6_217 dX6_node_76 rfl rfl ?_
              refine j_iload_1 80 dX6_node_79 rfl ?_
              refine j_ialdw 81 2 _ (z) dX6_node_80 rfl rfl rfl (by omega) hz ?_
              exact j_iret dX6_node_81 rfl rfl ⟨rfl, rfl⟩
            · omega
          · omega
        · omega
      · omega
  · omega
