set_option maxRecDepth 100000 in
set_option maxHeartbeats 4000000 in
theorem c_X7_item_no (E : jD) (fnd : Int) (ask : Int) (wd : Int) (n : Int) (mm : Int) (um : Int) (nd : Int) (fm : Nat → Int) (m0 : Nat) (m1 : Nat) (m2 : Nat) (m3 : Nat) (m4 : Nat) (m5 : Nat) (m6 : Nat) (m7 : Nat) (m8 : Nat) (m9 : Nat) (m10 : Nat) (m11 : Nat) (m12 : Nat) (thr : Int) (pd : Int) (pal : Int) (i c : Int) (hn : 0 ≤ n ∧ n ≤ 48) (hi : jr i) (hc : (n = 0 ∧ c = -2) ∨ (¬ n = 0 ∧ (i < 0 ∨ n ≤ i) ∧ c = 2)) : MC E Y_X7_item [.ref m0, .int (iI i)] [(m0, jO 7 [.int (iI thr), .int (iI ask), .int (iI fnd), .ref m1, .ref m2, .ref m3, .int (iI n), .int (iI wd), .ref m4, .ref m5, .int (iI mm), .ref m6, .ref m7, .int (iI um), .ref m8, .ref m9, .ref m10, .ref m11, .int (iI pd), .int (iI nd), .ref m12, .int (iI pal)]), (m1, jA E 5 (aI fm))] (fun rr N0 => rr = some (.int (iI (rz c))) ∧ N0 = [(m0, jO 7 [.int (iI 0), .int (iI ask), .int (iI (rf c fnd)), .ref m1, .ref m2, .ref m3, .int (iI n), .int (iI wd), .ref m4, .ref m5, .int (iI mm), .ref m6, .ref m7, .int (iI um), .ref m8, .ref m9, .ref m10, .ref m11, .int (iI pd), .int (iI nd), .ref m12, .int (iI pal)]), (m1, jA E 5 (aI (rm c fm)))]) := by
  refine MC.of (by decide) rfl rfl ?_
  refine j_aload_0 1 dX7_item_0 rfl ?_
  refine j_iconst 2 dX7_item_1 ?_
  refine j_put 5 0 pf_X7_46 dX7_item_2 rfl ⟨rfl, rfl, rfl⟩ ?_
  refine j_aload_0 6 dX7_item_5 rfl ?_
  refine j_iload_1 7 dX7_item_6 rfl ?_
  refine j_iload_1 8 dX7_item_7 rfl ?_
  refine j_callV 11 Y_X7_againstRun [0, 1] [_, _] (c_X7_againstRun_no E _ _ _ _ _ _ _ _ _ _ _ _ _ _ _ _ _ _ _ _ _ _ _ _ _ _ c hn hi hi (by omega)) m_X7_againstRun wml_X7_113 dX7_item_8 0 rfl rfl rfl rfl rfl rfl rfl rfl rfl (fun r N h => by obtain ⟨rfl, rfl⟩ := h; rfl) (fun r N h => ?_)
  obtain ⟨rfl, rfl⟩ := h
  refine j_istore_2 12 (lv' := [(0, _), (1, _), (2, _)]) dX7_item_11 rfl ⟨rfl, rfl⟩ ?_
  have hz := rz_ne (c := c) (by omega)
  have hzr := rz_r (c := c) (by omega)
  refine j_iload_2 13 dX7_item_12 rfl ?_
  refine j_if_eq 20 16 dX7_item_13 hzr (fun q13 => ?_) (fun q13 => ?_)
  · omega
  · refine j_iload_2 17 dX7_item_16 rfl ?_
    refine j_goto 31 dX7_item_17 ?_
    exact j_iret dX7_item_31 rfl rfl ⟨rfl, rfl⟩

set_option maxRecDepth 100000 in
set_option maxHeartbeats 4000000 in
theorem c_X7_left_no (E : jD) (fnd : Int) (ask : Int) (wd : Int) (n : Int) (mm : Int) (um : Int) (nd : Int) (fm : Nat → Int) (m0 : Nat) (m1 : Nat) (m2 : Nat) (m3 : Nat) (m4 : Nat) (m5 : Nat) (m6 : Nat) (m7 : Nat) (m8 : Nat) (m9 : Nat) (m10 : Nat) (m11 : Nat) (m12 : Nat) (thr : Int) (pd : Int) (pal : Int) (i c : Int) (hn : 0 ≤ n ∧ n ≤ 48) (hi : jr i) (hc : (n = 0 ∧ c = -2) ∨ (¬ n = 0 ∧ (i < 0 ∨ n ≤ i) ∧ c = 2)) : MC E Y_X7_left [.ref m0, .int (iI i)] [(m0, jO 7 [.int (iI thr), .int (iI ask), .int (iI fnd), .ref m1, .ref m2, .ref m3, .int (iI n), .int (iI wd), .ref m4, .ref m5, .int (iI mm), .ref m6, .ref m7, .int (iI um), .ref m8, .ref m9, .ref m10, .ref m11, .int (iI pd), .int (iI nd), .ref m12, .int (iI pal)]), (m1, jA E 5 (aI fm))] (fun rr N0 => rr = some (.int (iI (rz c))) ∧ N0 = [(m0, jO 7 [.int (iI 0), .int (iI ask), .int (iI (rf c fnd)), .ref m1, .ref m2, .ref m3, .int (iI n), .int (iI wd), .ref m4, .ref m5, .int (iI mm), .ref m6, .ref m7, .int (iI um), .ref m8, .ref m9, .ref m10, .ref m11, .int (iI pd), .int (iI nd), .ref m12, .int (iI pal)]), (m1, jA E 5 (aI (rm c fm)))]) := by
  refine MC.of (by decide) rfl rfl ?_
  refine j_aload_0 1 dX7_left_0 rfl ?_
  refine j_iconst 2 dX7_left_1 ?_
  refine j_put 5 0 pf_X7_46 dX7_left_2 rfl ⟨rfl, rfl, rfl⟩ ?_
  refine j_aload_0 6 dX7_left_5 rfl ?_
  refine j_iload_1 7 dX7_left_6 rfl ?_
  refine j_iload_1 8 dX7_left_7 rfl ?_
  refine j_callV 11 Y_X7_againstRun [0, 1] [_, _] (c_X7_againstRun_no E _ _ _ _ _ _ _ _ _ _ _ _ _ _ _ _ _ _ _ _ _ _ _ _ _ _ c hn hi hi (by omega)) m_X7_againstRun wml_X7_113 dX7_left_8 0 rfl rfl rfl rfl rfl rfl rfl rfl rfl (fun r N h => by obtain ⟨rfl, rfl⟩ := h; rfl) (fun r N h => ?_)
  obtain ⟨rfl, rfl⟩ := h
  refine j_istore_2 12 (lv' := [(0, _), (1, _), (2, _)]) dX7_left_11 rfl ⟨rfl, rfl⟩ ?_
  have hz := rz_ne (c := c) (by omega)
  have hzr := rz_r (c := c) (by omega)
  refine j_iload_2 13 dX7_left_12 rfl ?_
  refine j_if_eq 18 16 dX7_left_13 hzr (fun q13 => ?_) (fun q13 => ?_)
  · omega
  · refine j_iload_2 17 dX7_left_16 rfl ?_
    exact j_iret dX7_left_17 rfl rfl ⟨rfl, rfl⟩

set_option maxRecDepth 100000 in
set_option maxHeartbeats 4000000 in
theorem c_X7_right_no (E : jD) (fnd : Int) (ask : Int) (wd : Int) (n : Int) (mm : Int) (um : Int) (nd : Int) (fm : Nat → Int) (m0 : Nat) (m1 : Nat) (m2 : Nat) (m3 : Nat) (m4 : Nat) (m5 : Nat) (m6 : Nat) (m7 : Nat) (m8 : Nat) (m9 : Nat) (m10 : Nat) (m11 : Nat) (m12 : Nat) (thr : Int) (pd : Int) (pal : Int) (i c : Int) (hn : 0 ≤ n ∧ n ≤ 48) (hi : jr i) (hc : (n = 0 ∧ c = -2) ∨ (¬ n = 0 ∧ (i < 0 ∨ n ≤ i) ∧ c = 2)) : MC E Y_X7_right [.ref m0, .int (iI i)] [(m0, jO 7 [.int (iI thr), .int (iI ask), .int (iI fnd), .ref m1, .ref m2, .ref m3, .int (iI n), .int (iI wd), .ref m4, .ref m5, .int (iI mm), .ref m6, .ref m7, .int (iI um), .ref m8, .ref m9, .ref m10, .ref m11, .int (iI pd), .int (iI nd), .ref m12, .int (iI pal)]), (m1, jA E 5 (aI fm))] (fun rr N0 => rr = some (.int (iI (rz c))) ∧ N0 = [(m0, jO 7 [.int (iI 0), .int (iI ask), .int (iI (rf c fnd)), .ref m1, .ref m2, .ref m3, .int (iI n), .int (iI wd), .ref m4, .ref m5, .int (iI mm), .ref m6, .ref m7, .int (iI um), .ref m8, .ref m9, .ref m10, .ref m11, .int (iI pd), .int (iI nd), .ref m12, .int (iI pal)]), (m1, jA E 5 (aI (rm c fm)))]) := by
  refine MC.of (by decide) rfl rfl ?_
  refine j_aload_0 1 dX7_right_0 rfl ?_
  refine j_iconst 2 dX7_right_1 ?_
  refine j_put 5 0 pf_X7_46 dX7_right_2 rfl ⟨rfl, rfl, rfl⟩ ?_
  refine j_aload_0 6 dX7_right_5 rfl ?_
  refine j_iload_1 7 dX7_right_6 rfl ?_
  refine j_iload_1 8 dX7_right_7 rfl ?_
  refine j_callV 11 Y_X7_againstRun [0, 1] [_, _] (c_X7_againstRun_no E _ _ _ _ _ _ _ _ _ _ _ _ _ _ _ _ _ _ _ _ _ _ _ _ _ _ c hn hi hi (by omega)) m_X7_againstRun wml_X7_113 dX7_right_8 0 rfl rfl rfl rfl rfl rfl rfl rfl rfl (fun r N h => by obtain ⟨rfl, rfl⟩ := h; rfl) (fun r N h => ?_)
  obtain ⟨rfl, rfl⟩ := h
  refine j_istore_2 12 (lv' := [(0, _), (1, _), (2, _)]) dX7_right_11 rfl ⟨rfl, rfl⟩ ?_
  have hz := rz_ne (c := c) (by omega)
  have hzr := rz_r (c := c) (by omega)
  refine j_iload_2 13 dX7_right_12 rfl ?_
  refine j_if_eq 18 16 dX7_right_13 hzr (fun q13 => ?_) (fun q13 => ?_)
  · omega
  · refine j_iload_2 17 dX7_right_16 rfl ?_
    exact j_iret dX7_right_17 rfl rfl ⟨rfl, rfl⟩

set_option maxRecDepth 100000 in
set_option maxHeartbeats 4000000 in
theorem c_X7_owns_no (E : jD) (fnd : Int) (ask : Int) (wd : Int) (n : Int) (mm : Int) (um : Int) (nd : Int) (fm : Nat → Int) (m0 : Nat) (m1 : Nat) (m2 : Nat) (m3 : Nat) (m4 : Nat) (m5 : Nat) (m6 : Nat) (m7 : Nat) (m8 : Nat) (m9 : Nat) (m10 : Nat) (m11 : Nat) (m12 : Nat) (thr : Int) (pd : Int) (pal : Int) (i c : Int) (hn : 0 ≤ n ∧ n ≤ 48) (hi : jr i) (hc : (n = 0 ∧ c = -2) ∨ (¬ n = 0 ∧ (i < 0 ∨ n ≤ i) ∧ c = 2)) : MC E Y_X7_owns [.ref m0, .int (iI i)] [(m0, jO 7 [.int (iI thr), .int (iI ask), .int (iI fnd), .ref m1, .ref m2, .ref m3, .int (iI n), .int (iI wd), .ref m4, .ref m5, .int (iI mm), .ref m6, .ref m7, .int (iI um), .ref m8, .ref m9, .ref m10, .ref m11, .int (iI pd), .int (iI nd), .ref m12, .int (iI pal)]), (m1, jA E 5 (aI fm))] (fun rr N0 => rr = some (.int (iI (rz c))) ∧ N0 = [(m0, jO 7 [.int (iI 0), .int (iI ask), .int (iI (rf c fnd)), .ref m1, .ref m2, .ref m3, .int (iI n), .int (iI wd), .ref m4, .ref m5, .int (iI mm), .ref m6, .ref m7, .int (iI um), .ref m8, .ref m9, .ref m10, .ref m11, .int (iI pd), .int (iI nd), .ref m12, .int (iI pal)]), (m1, jA E 5 (aI (rm c fm)))]) := by
  refine MC.of (by decide) rfl rfl ?_
  refine j_aload_0 1 dX7_owns_0 rfl ?_
  refine j_iconst 2 dX7_owns_1 ?_
  refine j_put 5 0 pf_X7_46 dX7_owns_2 rfl ⟨rfl, rfl, rfl⟩ ?_
  refine j_aload_0 6 dX7_owns_5 rfl ?_
  refine j_iload_1 7 dX7_owns_6 rfl ?_
  refine j_iload_1 8 dX7_owns_7 rfl ?_
  refine j_callV 11 Y_X7_againstRun [0, 1] [_, _] (c_X7_againstRun_no E _ _ _ _ _ _ _ _ _ _ _ _ _ _ _ _ _ _ _ _ _ _ _ _ _ _ c hn hi hi (by omega)) m_X7_againstRun wml_X7_113 dX7_owns_8 0 rfl rfl rfl rfl rfl rfl rfl rfl rfl (fun r N h => by obtain ⟨rfl, rfl⟩ := h; rfl) (fun r N h => ?_)
  obtain ⟨rfl, rfl⟩ := h
  refine j_istore_2 12 (lv' := [(0, _), (1, _), (2, _)]) dX7_owns_11 rfl ⟨rfl, rfl⟩ ?_
  have hz := rz_ne (c := c) (by omega)
  have hzr := rz_r (c := c) (by omega)
  refine j_iload_2 13 dX7_owns_12 rfl ?_
  refine j_if_eq 20 16 dX7_owns_13 hzr (fun q13 => ?_) (fun q13 => ?_)
  · omega
  · refine j_iload_2 17 dX7_owns_16 rfl ?_
    refine j_goto 25 dX7_owns_17 ?_
    exact j_iret dX7_owns_25 rfl rfl ⟨rfl, rfl⟩

set_option maxRecDepth 100000 in
set_option maxHeartbeats 4000000 in
theorem c_X7_parent_no (E : jD) (fnd : Int) (ask : Int) (wd : Int) (n : Int) (mm : Int) (um : Int) (nd : Int) (fm : Nat → Int) (m0 : Nat) (m1 : Nat) (m2 : Nat) (m3 : Nat) (m4 : Nat) (m5 : Nat) (m6 : Nat) (m7 : Nat) (m8 : Nat) (m9 : Nat) (m10 : Nat) (m11 : Nat) (m12 : Nat) (thr : Int) (pd : Int) (pal : Int) (i c : Int) (hn : 0 ≤ n ∧ n ≤ 48) (hi : jr i) (hc : (n = 0 ∧ c = -2) ∨ (¬ n = 0 ∧ (i < 0 ∨ n ≤ i) ∧ c = 2)) : MC E Y_X7_parent [.ref m0, .int (iI i)] [(m0, jO 7 [.int (iI thr), .int (iI ask), .int (iI fnd), .ref m1, .ref m2, .ref m3, .int (iI n), .int (iI wd), .ref m4, .ref m5, .int (iI mm), .ref m6, .ref m7, .int (iI um), .ref m8, .ref m9, .ref m10, .ref m11, .int (iI pd), .int (iI nd), .ref m12, .int (iI pal)]), (m1, jA E 5 (aI fm))] (fun rr N0 => rr = some (.int (iI (rz c))) ∧ N0 = [(m0, jO 7 [.int (iI 0), .int (iI ask), .int (iI (rf c fnd)), .ref m1, .ref m2, .ref m3, .int (iI n), .int (iI wd), .ref m4, .ref m5, .int (iI mm), .ref m6, .ref m7, .int (iI um), .ref m8, .ref m9, .ref m10, .ref m11, .int (iI pd), .int (iI nd), .ref m12, .int (iI pal)]), (m1, jA E 5 (aI (rm c fm)))]) := by
  refine MC.of (by decide) rfl rfl ?_
  refine j_aload_0 1 dX7_parent_0 rfl ?_
  refine j_iconst 2 dX7_parent_1 ?_
  refine j_put 5 0 pf_X7_46 dX7_parent_2 rfl ⟨rfl, rfl, rfl⟩ ?_
  refine j_aload_0 6 dX7_parent_5 rfl ?_
  refine j_iload_1 7 dX7_parent_6 rfl ?_
  refine j_iload_1 8 dX7_parent_7 rfl ?_
  refine j_callV 11 Y_X7_againstRun [0, 1] [_, _] (c_X7_againstRun_no E _ _ _ _ _ _ _ _ _ _ _ _ _ _ _ _ _ _ _ _ _ _ _ _ _ _ c hn hi hi (by omega)) m_X7_againstRun wml_X7_113 dX7_parent_8 0 rfl rfl rfl rfl rfl rfl rfl rfl rfl (fun r N h => by obtain ⟨rfl, rfl⟩ := h; rfl) (fun r N h => ?_)
  obtain ⟨rfl, rfl⟩ := h
  refine j_istore_2 12 (lv' := [(0, _), (1, _), (2, _)]) dX7_parent_11 rfl ⟨rfl, rfl⟩ ?_
  have hz := rz_ne (c := c) (by omega)
  have hzr := rz_r (c := c) (by omega)
  refine j_iload_2 13 dX7_parent_12 rfl ?_
  refine j_if_eq 18 16 dX7_parent_13 hzr (fun q13 => ?_) (fun q13 => ?_)
  · omega
  · refine j_iload_2 17 dX7_parent_16 rfl ?_
    exact j_iret dX7_parent_17 rfl rfl ⟨rfl, rfl⟩

set_option maxRecDepth 100000 in
set_option maxHeartbeats 4000000 in
theorem c_X7_depth_no (E : jD) (fnd : Int) (ask : Int) (wd : Int) (n : Int) (mm : Int) (um : Int) (nd : Int) (fm : Nat → Int) (m0 : Nat) (m1 : Nat) (m2 : Nat) (m3 : Nat) (m4 : Nat) (m5 : Nat) (m6 : Nat) (m7 : Nat) (m8 : Nat) (m9 : Nat) (m10 : Nat) (m11 : Nat) (m12 : Nat) (thr : Int) (pd : Int) (pal : Int) (i c : Int) (hn : 0 ≤ n ∧ n ≤ 48) (hi : jr i) (hc : (n = 0 ∧ c = -2) ∨ (¬ n = 0 ∧ (i < 0 ∨ n ≤ i) ∧ c = 2)) : MC E Y_X7_depth [.ref m0, .int (iI i)] [(m0, jO 7 [.int (iI thr), .int (iI ask), .int (iI fnd), .ref m1, .ref m2, .ref m3, .int (iI n), .int (iI wd), .ref m4, .ref m5, .int (iI mm), .ref m6, .ref m7, .int (iI um), .ref m8, .ref m9, .ref m10, .ref m11, .int (iI pd), .int (iI nd), .ref m12, .int (iI pal)]), (m1, jA E 5 (aI fm))] (fun rr N0 => rr = some (.int (iI (rz c))) ∧ N0 = [(m0, jO 7 [.int (iI 0), .int (iI ask), .int (iI (rf c fnd)), .ref m1, .ref m2, .ref m3, .int (iI n), .int (iI wd), .ref m4, .ref m5, .int (iI mm), .ref m6, .ref m7, .int (iI um), .ref m8, .ref m9, .ref m10, .ref m11, .int (iI pd), .int (iI nd), .ref m12, .int (iI pal)]), (m1, jA E 5 (aI (rm c fm)))]) := by
  refine MC.of (by decide) rfl rfl ?_
  refine j_aload_0 1 dX7_depth_0 rfl ?_
  refine j_iconst 2 dX7_depth_1 ?_
  refine j_put 5 0 pf_X7_46 dX7_depth_2 rfl ⟨rfl, rfl, rfl⟩ ?_
  refine j_aload_0 6 dX7_depth_5 rfl ?_
  refine j_iload_1 7 dX7_depth_6 rfl ?_
  refine j_iload_1 8 dX7_depth_7 rfl ?_
  refine j_callV 11 Y_X7_againstRun [0, 1] [_, _] (c_X7_againstRun_no E _ _ _ _ _ _ _ _ _ _ _ _ _ _ _ _ _ _ _ _ _ _ _ _ _ _ c hn hi hi (by omega)) m_X7_againstRun wml_X7_113 dX7_depth_8 0 rfl rfl rfl rfl rfl rfl rfl rfl rfl (fun r N h => by obtain ⟨rfl, rfl⟩ := h; rfl) (fun r N h => ?_)
  obtain ⟨rfl, rfl⟩ := h
  refine j_istore_2 12 (lv' := [(0, _), (1, _), (2, _)]) dX7_depth_11 rfl ⟨rfl, rfl⟩ ?_
  have hz := rz_ne (c := c) (by omega)
  have hzr := rz_r (c := c) (by omega)
  refine j_iload_2 13 dX7_depth_12 rfl ?_
  refine j_if_eq 20 16 dX7_depth_13 hzr (fun q13 => ?_) (fun q13 => ?_)
  · omega
  · refine j_iload_2 17 dX7_depth_16 rfl ?_
    refine j_goto 25 dX7_depth_17 ?_
    exact j_iret dX7_depth_25 rfl rfl ⟨rfl, rfl⟩

set_option maxRecDepth 100000 in
set_option maxHeartbeats 4000000 in
theorem c_X7_size_no (E : jD) (fnd : Int) (ask : Int) (wd : Int) (n : Int) (mm : Int) (um : Int) (nd : Int) (fm : Nat → Int) (m0 : Nat) (m1 : Nat) (m2 : Nat) (m3 : Nat) (m4 : Nat) (m5 : Nat) (m6 : Nat) (m7 : Nat) (m8 : Nat) (m9 : Nat) (m10 : Nat) (m11 : Nat) (m12 : Nat) (thr : Int) (pd : Int) (pal : Int) (i c : Int) (hn : 0 ≤ n ∧ n ≤ 48) (hi : jr i) (hc : (n = 0 ∧ c = -2) ∨ (¬ n = 0 ∧ (i < 0 ∨ n ≤ i) ∧ c = 2)) : MC E Y_X7_size [.ref m0, .int (iI i)] [(m0, jO 7 [.int (iI thr), .int (iI ask), .int (iI fnd), .ref m1, .ref m2, .ref m3, .int (iI n), .int (iI wd), .ref m4, .ref m5, .int (iI mm), .ref m6, .ref m7, .int (iI um), .ref m8, .ref m9, .ref m10, .ref m11, .int (iI pd), .int (iI nd), .ref m12, .int (iI pal)]), (m1, jA E 5 (aI fm))] (fun rr N0 => rr = some (.int (iI (rz c))) ∧ N0 = [(m0, jO 7 [.int (iI 0), .int (iI ask), .int (iI (rf c fnd)), .ref m1, .ref m2, .ref m3, .int (iI n), .int (iI wd), .ref m4, .ref m5, .int (iI mm), .ref m6, .ref m7, .int (iI um), .ref m8, .ref m9, .ref m10, .ref m11, .int (iI pd), .int (iI nd), .ref m12, .int (iI pal)]), (m1, jA E 5 (aI (rm c fm)))]) := by
  refine MC.of (by decide) rfl rfl ?_
  refine j_aload_0 1 dX7_size_0 rfl ?_
  refine j_iconst 2 dX7_size_1 ?_
  refine j_put 5 0 pf_X7_46 dX7_size_2 rfl ⟨rfl, rfl, rfl⟩ ?_
  refine j_aload_0 6 dX7_size_5 rfl ?_
  refine j_iload_1 7 dX7_size_6 rfl ?_
  refine j_iload_1 8 dX7_size_7 rfl ?_
  refine j_callV 11 Y_X7_againstRun [0, 1] [_, _] (c_X7_againstRun_no E _ _ _ _ _ _ _ _ _ _ _ _ _ _ _ _ _ _ _ _ _ _ _ _ _ _ c hn hi hi (by omega)) m_X7_againstRun wml_X7_113 dX7_size_8 0 rfl rfl rfl rfl rfl rfl rfl rfl rfl (fun r N h => by obtain ⟨rfl, rfl⟩ := h; rfl) (fun r N h => ?_)
  obtain ⟨rfl, rfl⟩ := h
  refine j_istore_2 12 (lv' := [(0, _), (1, _), (2, _)]) dX7_size_11 rfl ⟨rfl, rfl⟩ ?_
  have hz := rz_ne (c := c) (by omega)
  have hzr := rz_r (c := c) (by omega)
  refine j_iload_2 13 dX7_size_12 rfl ?_
  refine j_if_eq 20 16 dX7_size_13 hzr (fun q13 => ?_) (fun q13 => ?_)
  · omega
  · refine j_iload_2 17 dX7_size_16 rfl ?_
    refine j_goto 33 dX7_size_17 ?_
    exact j_iret dX7_size_33 rfl rfl ⟨rfl, rfl⟩

set_option maxRecDepth 100000 in
set_option maxHeartbeats 4000000 in
theorem c_X7_put_no (E : jD) (fnd : Int) (ask : Int) (wd : Int) (n : Int) (mm : Int) (um : Int) (nd : Int) (fm : Nat → Int) (m0 : Nat) (m1 : Nat) (m2 : Nat) (m3 : Nat) (m4 : Nat) (m5 : Nat) (m6 : Nat) (m7 : Nat) (m8 : Nat) (m9 : Nat) (m10 : Nat) (m11 : Nat) (m12 : Nat) (thr : Int) (pd : Int) (pal : Int) (i c : Int) (v : Int32) (hn : 0 ≤ n ∧ n ≤ 48) (hi : jr i) (hc : (n = 0 ∧ c = -2) ∨ (¬ n = 0 ∧ (i < 0 ∨ n ≤ i) ∧ c = 2)) : MC E Y_X7_put [.ref m0, .int (iI i), .int v] [(m0, jO 7 [.int (iI thr), .int (iI ask), .int (iI fnd), .ref m1, .ref m2, .ref m3, .int (iI n), .int (iI wd), .ref m4, .ref m5, .int (iI mm), .ref m6, .ref m7, .int (iI um), .ref m8, .ref m9, .ref m10, .ref m11, .int (iI pd), .int (iI nd), .ref m12, .int (iI pal)]), (m1, jA E 5 (aI fm))] (fun rr N0 => rr = some (.int (iI (rz c))) ∧ N0 = [(m0, jO 7 [.int (iI 0), .int (iI ask), .int (iI (rf c fnd)), .ref m1, .ref m2, .ref m3, .int (iI n), .int (iI wd), .ref m4, .ref m5, .int (iI mm), .ref m6, .ref m7, .int (iI um), .ref m8, .ref m9, .ref m10, .ref m11, .int (iI pd), .int (iI nd), .ref m12, .int (iI pal)]), (m1, jA E 5 (aI (rm c fm)))]) := by
  refine MC.of (by decide) rfl rfl ?_
  refine j_aload_0 1 dX7_put_0 rfl ?_
  refine j_iconst 2 dX7_put_1 ?_
  refine j_put 5 0 pf_X7_46 dX7_put_2 rfl ⟨rfl, rfl, rfl⟩ ?_
  refine j_aload_0 6 dX7_put_5 rfl ?_
  refine j_iload_1 7 dX7_put_6 rfl ?_
  refine j_iload_1 8 dX7_put_7 rfl ?_
  refine j_callV 11 Y_X7_againstRun [0, 1] [_, _] (c_X7_againstRun_no E _ _ _ _ _ _ _ _ _ _ _ _ _ _ _ _ _ _ _ _ _ _ _ _ _ _ c hn hi hi (by omega)) m_X7_againstRun wml_X7_113 dX7_put_8 0 rfl rfl rfl rfl rfl rfl rfl rfl rfl (fun r N h => by obtain ⟨rfl, rfl⟩ := h; rfl) (fun r N h => ?_)
  obtain ⟨rfl, rfl⟩ := h
  refine j_istore_3 12 (lv' := [(0, _), (1, _), (2, _), (3, _)]) dX7_put_11 rfl ⟨rfl, rfl⟩ ?_
  have hz := rz_ne (c := c) (by omega)
  have hzr := rz_r (c := c) (by omega)
  refine j_iload_3 13 dX7_put_12 rfl ?_
  refine j_if_eq 18 16 dX7_put_13 hzr (fun q13 => ?_) (fun q13 => ?_)
  · omega
  · refine j_iload_3 17 dX7_put_16 rfl ?_
    exact j_iret dX7_put_17 rfl rfl ⟨rfl, rfl⟩

set_option maxRecDepth 100000 in
set_option maxHeartbeats 4000000 in
theorem c_X7_above_no (E : jD) (fnd : Int) (ask : Int) (wd : Int) (n : Int) (mm : Int) (um : Int) (nd : Int) (fm : Nat → Int) (m0 : Nat) (m1 : Nat) (m2 : Nat) (m3 : Nat) (m4 : Nat) (m5 : Nat) (m6 : Nat) (m7 : Nat) (m8 : Nat) (m9 : Nat) (m10 : Nat) (m11 : Nat) (m12 : Nat) (thr : Int) (pd : Int) (pal : Int) (i c : Int) (d : Int) (hn : 0 ≤ n ∧ n ≤ 48) (hi : jr i) (hc : (n = 0 ∧ c = -2) ∨ (¬ n = 0 ∧ (i < 0 ∨ n ≤ i) ∧ c = 2)) : MC E Y_X7_above [.ref m0, .int (iI i), .int (iI d)] [(m0, jO 7 [.int (iI thr), .int (iI ask), .int (iI fnd), .ref m1, .ref m2, .ref m3, .int (iI n), .int (iI wd), .ref m4, .ref m5, .int (iI mm), .ref m6, .ref m7, .int (iI um), .ref m8, .ref m9, .ref m10, .ref m11, .int (iI pd), .int (iI nd), .ref m12, .int (iI pal)]), (m1, jA E 5 (aI fm))] (fun rr N0 => rr = some (.int (iI (rz c))) ∧ N0 = [(m0, jO 7 [.int (iI 0), .int (iI ask), .int (iI (rf c fnd)), .ref m1, .ref m2, .ref m3, .int (iI n), .int (iI wd), .ref m4, .ref m5, .int (iI mm), .ref m6, .ref m7, .int (iI um), .ref m8, .ref m9, .ref m10, .ref m11, .int (iI pd), .int (iI nd), .ref m12, .int (iI pal)]), (m1, jA E 5 (aI (rm c fm)))]) := by
  refine MC.of (by decide) rfl rfl ?_
  refine j_aload_0 1 dX7_above_0 rfl ?_
  refine j_iconst 2 dX7_above_1 ?_
  refine j_put 5 0 pf_X7_46 dX7_above_2 rfl ⟨rfl, rfl, rfl⟩ ?_
  refine j_aload_0 6 dX7_above_5 rfl ?_
  refine j_iload_1 7 dX7_above_6 rfl ?_
  refine j_iload_1 8 dX7_above_7 rfl ?_
  refine j_callV 11 Y_X7_againstRun [0, 1] [_, _] (c_X7_againstRun_no E _ _ _ _ _ _ _ _ _ _ _ _ _ _ _ _ _ _ _ _ _ _ _ _ _ _ c hn hi hi (by omega)) m_X7_againstRun wml_X7_113 dX7_above_8 0 rfl rfl rfl rfl rfl rfl rfl rfl rfl (fun r N h => by obtain ⟨rfl, rfl⟩ := h; rfl) (fun r N h => ?_)
  obtain ⟨rfl, rfl⟩ := h
  refine j_istore_3 12 (lv' := [(0, _), (1, _), (2, _), (3, _)]) dX7_above_11 rfl ⟨rfl, rfl⟩ ?_
  have hz := rz_ne (c := c) (by omega)
  have hzr := rz_r (c := c) (by omega)
  refine j_iload_3 13 dX7_above_12 rfl ?_
  refine j_if_eq 18 16 dX7_above_13 hzr (fun q13 => ?_) (fun q13 => ?_)
  · omega
  · refine j_iload_3 17 dX7_above_16 rfl ?_
    exact j_iret dX7_above_17 rfl rfl ⟨rfl, rfl⟩

set_option maxRecDepth 100000 in
set_option maxHeartbeats 4000000 in
theorem c_X7_least_no (E : jD) (fnd : Int) (ask : Int) (wd : Int) (n : Int) (mm : Int) (um : Int) (nd : Int) (fm : Nat → Int) (m0 : Nat) (m1 : Nat) (m2 : Nat) (m3 : Nat) (m4 : Nat) (m5 : Nat) (m6 : Nat) (m7 : Nat) (m8 : Nat) (m9 : Nat) (m10 : Nat) (m11 : Nat) (m12 : Nat) (thr : Int) (pd : Int) (pal : Int) (i j c : Int) (hn : 0 ≤ n ∧ n ≤ 48) (hi : jr i) (hj : jr j) (hc : (n = 0 ∧ c = -2) ∨ (¬ n = 0 ∧ (i < 0 ∨ n ≤ i ∨ j < i ∨ n ≤ j) ∧ c = 2)) : MC E Y_X7_least [.ref m0, .int (iI i), .int (iI j)] [(m0, jO 7 [.int (iI thr), .int (iI ask), .int (iI fnd), .ref m1, .ref m2, .ref m3, .int (iI n), .int (iI wd), .ref m4, .ref m5, .int (iI mm), .ref m6, .ref m7, .int (iI um), .ref m8, .ref m9, .ref m10, .ref m11, .int (iI pd), .int (iI nd), .ref m12, .int (iI pal)]), (m1, jA E 5 (aI fm))] (fun rr N0 => rr = some (.int (iI (rz c))) ∧ N0 = [(m0, jO 7 [.int (iI 0), .int (iI ask), .int (iI (rf c fnd)), .ref m1, .ref m2, .ref m3, .int (iI n), .int (iI wd), .ref m4, .ref m5, .int (iI mm), .ref m6, .ref m7, .int (iI um), .ref m8, .ref m9, .ref m10, .ref m11, .int (iI pd), .int (iI nd), .ref m12, .int (iI pal)]), (m1, jA E 5 (aI (rm c fm)))]) := by
  refine MC.of (by decide) rfl rfl ?_
  refine j_aload_0 1 dX7_least_0 rfl ?_
  refine j_iconst 2 dX7_least_1 ?_
  refine j_put 5 0 pf_X7_46 dX7_least_2 rfl ⟨rfl, rfl, rfl⟩ ?_
  refine j_aload_0 6 dX7_least_5 rfl ?_
  refine j_iload_1 7 dX7_least_6 rfl ?_
  refine j_iload_2 8 dX7_least_7 rfl ?_
  refine j_callV 11 Y_X7_againstRun [0, 1] [_, _] (c_X7_againstRun_no E _ _ _ _ _ _ _ _ _ _ _ _ _ _ _ _ _ _ _ _ _ _ _ _ _ _ c hn hi hj (by omega)) m_X7_againstRun wml_X7_113 dX7_least_8 0 rfl rfl rfl rfl rfl rfl rfl rfl rfl (fun r N h => by obtain ⟨rfl, rfl⟩ := h; rfl) (fun r N h => ?_)
  obtain ⟨rfl, rfl⟩ := h
  refine j_istore_3 12 (lv' := [(0, _), (1, _), (2, _), (3, _)]) dX7_least_11 rfl ⟨rfl, rfl⟩ ?_
  have hz := rz_ne (c := c) (by omega)
  have hzr := rz_r (c := c) (by omega)
  refine j_iload_3 13 dX7_least_12 rfl ?_
  refine j_if_eq 18 16 dX7_least_13 hzr (fun q13 => ?_) (fun q13 => ?_)
  · omega
  · refine j_iload_3 17 dX7_least_16 rfl ?_
    exact j_iret dX7_least_17 rfl rfl ⟨rfl, rfl⟩

set_option maxRecDepth 100000 in
set_option maxHeartbeats 4000000 in
theorem c_X7_kth_no (E : jD) (fnd : Int) (ask : Int) (wd : Int) (n : Int) (mm : Int) (um : Int) (nd : Int) (fm : Nat → Int) (m0 : Nat) (m1 : Nat) (m2 : Nat) (m3 : Nat) (m4 : Nat) (m5 : Nat) (m6 : Nat) (m7 : Nat) (m8 : Nat) (m9 : Nat) (m10 : Nat) (m11 : Nat) (m12 : Nat) (thr : Int) (pd : Int) (pal : Int) (i j k c : Int) (hn : 0 ≤ n ∧ n ≤ 48) (hi : jr i) (hj : jr j) (hc : (n = 0 ∧ c = -2) ∨ (¬ n = 0 ∧ (i < 0 ∨ n ≤ i ∨ j < i ∨ n ≤ j) ∧ c = 2)) : MC E Y_X7_kth [.ref m0, .int (iI i), .int (iI j), .int (iI k)] [(m0, jO 7 [.int (iI thr), .int (iI ask), .int (iI fnd), .ref m1, .ref m2, .ref m3, .int (iI n), .int (iI wd), .ref m4, .ref m5, .int (iI mm), .ref m6, .ref m7, .int (iI um), .ref m8, .ref m9, .ref m10, .ref m11, .int (iI pd), .int (iI nd), .ref m12, .int (iI pal)]), (m1, jA E 5 (aI fm))] (fun rr N0 => rr = some (.int (iI (rz c))) ∧ N0 = [(m0, jO 7 [.int (iI 0), .int (iI ask), .int (iI (rf c fnd)), .ref m1, .ref m2, .ref m3, .int (iI n), .int (iI wd), .ref m4, .ref m5, .int (iI mm), .ref m6, .ref m7, .int (iI um), .ref m8, .ref m9, .ref m10, .ref m11, .int (iI pd), .int (iI nd), .ref m12, .int (iI pal)]), (m1, jA E 5 (aI (rm c fm)))]) := by
  refine MC.of (by decide) rfl rfl ?_
  refine j_aload_0 1 dX7_kth_0 rfl ?_
  refine j_iconst 2 dX7_kth_1 ?_
  refine j_put 5 0 pf_X7_46 dX7_kth_2 rfl ⟨rfl, rfl, rfl⟩ ?_
  refine j_aload_0 6 dX7_kth_5 rfl ?_
  refine j_iload_1 7 dX7_kth_6 rfl ?_
  refine j_iload_2 8 dX7_kth_7 rfl ?_
  refine j_callV 11 Y_X7_againstRun [0, 1] [_, _] (c_X7_againstRun_no E _ _ _ _ _ _ _ _ _ _ _ _ _ _ _ _ _ _ _ _ _ _ _ _ _ _ c hn hi hj (by omega)) m_X7_againstRun wml_X7_113 dX7_kth_8 0 rfl rfl rfl rfl rfl rfl rfl rfl rfl (fun r N h => by obtain ⟨rfl, rfl⟩ := h; rfl) (fun r N h => ?_)
  obtain ⟨rfl, rfl⟩ := h
  refine j_istore 13 (lv' := [(0, _), (1, _), (2, _), (3, _), (4, _)]) dX7_kth_11 rfl ⟨rfl, rfl⟩ ?_
  have hz := rz_ne (c := c) (by omega)
  have hzr := rz_r (c := c) (by omega)
  refine j_iload 15 dX7_kth_13 rfl ?_
  refine j_if_eq 21 18 dX7_kth_15 hzr (fun q15 => ?_) (fun q15 => ?_)
  · omega
  · refine j_iload 20 dX7_kth_18 rfl ?_
    exact j_iret dX7_kth_20 rfl rfl ⟨rfl, rfl⟩

set_option maxRecDepth 100000 in
set_option maxHeartbeats 4000000 in
theorem c_X7_meet_no (E : jD) (fnd : Int) (ask : Int) (wd : Int) (n : Int) (mm : Int) (um : Int) (nd : Int) (fm : Nat → Int) (m0 : Nat) (m1 : Nat) (m2 : Nat) (m3 : Nat) (m4 : Nat) (m5 : Nat) (m6 : Nat) (m7 : Nat) (m8 : Nat) (m9 : Nat) (m10 : Nat) (m11 : Nat) (m12 : Nat) (thr : Int) (pd : Int) (pal : Int) (u v c : Int) (hnd : 0 ≤ nd ∧ nd ≤ 24) (hu : jr u) (hv : jr v) (hc : (nd = 0 ∧ c = -2) ∨ (¬ nd = 0 ∧ (u < 0 ∨ nd ≤ u ∨ v < 0 ∨ nd ≤ v) ∧ c = 2)) : MC E Y_X7_meet [.ref m0, .int (iI u), .int (iI v)] [(m0, jO 7 [.int (iI thr), .int (iI ask), .int (iI fnd), .ref m1, .ref m2, .ref m3, .int (iI n), .int (iI wd), .ref m4, .ref m5, .int (iI mm), .ref m6, .ref m7, .int (iI um), .ref m8, .ref m9, .ref m10, .ref m11, .int (iI pd), .int (iI nd), .ref m12, .int (iI pal)]), (m1, jA E 5 (aI fm))] (fun rr N0 => rr = some (.int (iI (rz c))) ∧ N0 = [(m0, jO 7 [.int (iI 0), .int (iI ask), .int (iI (rf c fnd)), .ref m1, .ref m2, .ref m3, .int (iI n), .int (iI wd), .ref m4, .ref m5, .int (iI mm), .ref m6, .ref m7, .int (iI um), .ref m8, .ref m9, .ref m10, .ref m11, .int (iI pd), .int (iI nd), .ref m12, .int (iI pal)]), (m1, jA E 5 (aI (rm c fm)))]) := by
  refine MC.of (by decide) rfl rfl ?_
  refine j_aload_0 1 dX7_meet_0 rfl ?_
  refine j_iconst 2 dX7_meet_1 ?_
  refine j_put 5 0 pf_X7_46 dX7_meet_2 rfl ⟨rfl, rfl, rfl⟩ ?_
  refine j_aload_0 6 dX7_meet_5 rfl ?_
  refine j_iload_1 7 dX7_meet_6 rfl ?_
  refine j_iload_2 8 dX7_meet_7 rfl ?_
  refine j_callV 11 Y_X7_againstNodes [0, 1] [_, _] (c_X7_againstNodes_no E _ _ _ _ _ _ _ _ _ _ _ _ _ _ _ _ _ _ _ _ _ _ _ _ _ _ c hnd hu hv (by omega)) m_X7_againstNodes wml_X7_152 dX7_meet_8 0 rfl rfl rfl rfl rfl rfl rfl rfl rfl (fun r N h => by obtain ⟨rfl, rfl⟩ := h; rfl) (fun r N h => ?_)
  obtain ⟨rfl, rfl⟩ := h
  refine j_istore_3 12 (lv' := [(0, _), (1, _), (2, _), (3, _)]) dX7_meet_11 rfl ⟨rfl, rfl⟩ ?_
  have hz := rz_ne (c := c) (by omega)
  have hzr := rz_r (c := c) (by omega)
  refine j_iload_3 13 dX7_meet_12 rfl ?_
  refine j_if_eq 20 16 dX7_meet_13 hzr (fun q13 => ?_) (fun q13 => ?_)
  · omega
  · refine j_iload_3 17 dX7_meet_16 rfl ?_
    refine j_goto 26 dX7_meet_17 ?_
    exact j_iret dX7_meet_26 rfl rfl ⟨rfl, rfl⟩

set_option maxRecDepth 100000 in
set_option maxHeartbeats 4000000 in
theorem c_X7_apart_no (E : jD) (fnd : Int) (ask : Int) (wd : Int) (n : Int) (mm : Int) (um : Int) (nd : Int) (fm : Nat → Int) (m0 : Nat) (m1 : Nat) (m2 : Nat) (m3 : Nat) (m4 : Nat) (m5 : Nat) (m6 : Nat) (m7 : Nat) (m8 : Nat) (m9 : Nat) (m10 : Nat) (m11 : Nat) (m12 : Nat) (thr : Int) (pd : Int) (pal : Int) (u v c : Int) (hnd : 0 ≤ nd ∧ nd ≤ 24) (hu : jr u) (hv : jr v) (hc : (nd = 0 ∧ c = -2) ∨ (¬ nd = 0 ∧ (u < 0 ∨ nd ≤ u ∨ v < 0 ∨ nd ≤ v) ∧ c = 2)) : MC E Y_X7_apart [.ref m0, .int (iI u), .int (iI v)] [(m0, jO 7 [.int (iI thr), .int (iI ask), .int (iI fnd), .ref m1, .ref m2, .ref m3, .int (iI n), .int (iI wd), .ref m4, .ref m5, .int (iI mm), .ref m6, .ref m7, .int (iI um), .ref m8, .ref m9, .ref m10, .ref m11, .int (iI pd), .int (iI nd), .ref m12, .int (iI pal)]), (m1, jA E 5 (aI fm))] (fun rr N0 => rr = some (.int (iI (rz c))) ∧ N0 = [(m0, jO 7 [.int (iI 0), .int (iI ask), .int (iI (rf c fnd)), .ref m1, .ref m2, .ref m3, .int (iI n), .int (iI wd), .ref m4, .ref m5, .int (iI mm), .ref m6, .ref m7, .int (iI um), .ref m8, .ref m9, .ref m10, .ref m11, .int (iI pd), .int (iI nd), .ref m12, .int (iI pal)]), (m1, jA E 5 (aI (rm c fm)))]) := by
  refine MC.of (by decide) rfl rfl ?_
  refine j_aload_0 1 dX7_apart_0 rfl ?_
  refine j_iconst 2 dX7_apart_1 ?_
  refine j_put 5 0 pf_X7_46 dX7_apart_2 rfl ⟨rfl, rfl, rfl⟩ ?_
  refine j_aload_0 6 dX7_apart_5 rfl ?_
  refine j_iload_1 7 dX7_apart_6 rfl ?_
  refine j_iload_2 8 dX7_apart_7 rfl ?_
  refine j_callV 11 Y_X7_againstNodes [0, 1] [_, _] (c_X7_againstNodes_no E _ _ _ _ _ _ _ _ _ _ _ _ _ _ _ _ _ _ _ _ _ _ _ _ _ _ c hnd hu hv (by omega)) m_X7_againstNodes wml_X7_152 dX7_apart_8 0 rfl rfl rfl rfl rfl rfl rfl rfl rfl (fun r N h => by obtain ⟨rfl, rfl⟩ := h; rfl) (fun r N h => ?_)
  obtain ⟨rfl, rfl⟩ := h
  refine j_istore_3 12 (lv' := [(0, _), (1, _), (2, _), (3, _)]) dX7_apart_11 rfl ⟨rfl, rfl⟩ ?_
  have hz := rz_ne (c := c) (by omega)
  have hzr := rz_r (c := c) (by omega)
  refine j_iload_3 13 dX7_apart_12 rfl ?_
  refine j_if_eq 20 16 dX7_apart_13 hzr (fun q13 => ?_) (fun q13 => ?_)
  · omega
  · refine j_iload_3 17 dX7_apart_16 rfl ?_
    refine j_goto 44 dX7_apart_17 ?_
    exact j_iret dX7_apart_44 rfl rfl ⟨rfl, rfl⟩

set_option maxRecDepth 100000 in
set_option maxHeartbeats 4000000 in
theorem c_X7_up_no (E : jD) (fnd : Int) (ask : Int) (wd : Int) (n : Int) (mm : Int) (um : Int) (nd : Int) (fm : Nat → Int) (m0 : Nat) (m1 : Nat) (m2 : Nat) (m3 : Nat) (m4 : Nat) (m5 : Nat) (m6 : Nat) (m7 : Nat) (m8 : Nat) (m9 : Nat) (m10 : Nat) (m11 : Nat) (m12 : Nat) (thr : Int) (pd : Int) (pal : Int) (u d c : Int) (hnd : 0 ≤ nd ∧ nd ≤ 24) (hu : jr u) (hc : (nd = 0 ∧ c = -2) ∨ (¬ nd = 0 ∧ (u < 0 ∨ nd ≤ u) ∧ c = 2)) : MC E Y_X7_up [.ref m0, .int (iI u), .int (iI d)] [(m0, jO 7 [.int (iI thr), .int (iI ask), .int (iI fnd), .ref m1, .ref m2, .ref m3, .int (iI n), .int (iI wd), .ref m4, .ref m5, .int (iI mm), .ref m6, .ref m7, .int (iI um), .ref m8, .ref m9, .ref m10, .ref m11, .int (iI pd), .int (iI nd), .ref m12, .int (iI pal)]), (m1, jA E 5 (aI fm))] (fun rr N0 => rr = some (.int (iI (rz c))) ∧ N0 = [(m0, jO 7 [.int (iI 0), .int (iI ask), .int (iI (rf c fnd)), .ref m1, .ref m2, .ref m3, .int (iI n), .int (iI wd), .ref m4, .ref m5, .int (iI mm), .ref m6, .ref m7, .int (iI um), .ref m8, .ref m9, .ref m10, .ref m11, .int (iI pd), .int (iI nd), .ref m12, .int (iI pal)]), (m1, jA E 5 (aI (rm c fm)))]) := by
  refine MC.of (by decide) rfl rfl ?_
  refine j_aload_0 1 dX7_up_0 rfl ?_
  refine j_iconst 2 dX7_up_1 ?_
  refine j_put 5 0 pf_X7_46 dX7_up_2 rfl ⟨rfl, rfl, rfl⟩ ?_
  refine j_aload_0 6 dX7_up_5 rfl ?_
  refine j_iload_1 7 dX7_up_6 rfl ?_
  refine j_iload_1 8 dX7_up_7 rfl ?_
  refine j_callV 11 Y_X7_againstNodes [0, 1] [_, _] (c_X7_againstNodes_no E _ _ _ _ _ _ _ _ _ _ _ _ _ _ _ _ _ _ _ _ _ _ _ _ _ _ c hnd hu hu (by omega)) m_X7_againstNodes wml_X7_152 dX7_up_8 0 rfl rfl rfl rfl rfl rfl rfl rfl rfl (fun r N h => by obtain ⟨rfl, rfl⟩ := h; rfl) (fun r N h => ?_)
  obtain ⟨rfl, rfl⟩ := h
  refine j_istore_3 12 (lv' := [(0, _), (1, _), (2, _), (3, _)]) dX7_up_11 rfl ⟨rfl, rfl⟩ ?_
  have hz := rz_ne (c := c) (by omega)
  have hzr := rz_r (c := c) (by omega)
  refine j_iload_3 13 dX7_up_12 rfl ?_
  refine j_if_eq 18 16 dX7_up_13 hzr (fun q13 => ?_) (fun q13 => ?_)
  · omega
  · refine j_iload_3 17 dX7_up_16 rfl ?_
    exact j_iret dX7_up_17 rfl rfl ⟨rfl, rfl⟩

set_option maxRecDepth 100000 in
set_option maxHeartbeats 4000000 in
theorem c_X7_lay_bad (E : jD) (fnd : Int) (ask : Int) (wd : Int) (n : Int) (mm : Int) (um : Int) (nd : Int) (m0 : Nat) (m1 : Nat) (m2 : Nat) (m3 : Nat) (m4 : Nat) (m5 : Nat) (m6 : Nat) (m7 : Nat) (m8 : Nat) (m9 : Nat) (m10 : Nat) (m11 : Nat) (m12 : Nat) (thr : Int) (pd : Int) (pal : Int) (r i : Int) (v : Int32) (hr : jr r) (hb : r < 0 ∨ 4 ≤ r) : MC E Y_X7_lay [.ref m0, .int (iI r), .int (iI i), .int v] [(m0, jO 7 [.int (iI thr), .int (iI ask), .int (iI fnd), .ref m1, .ref m2, .ref m3, .int (iI n), .int (iI wd), .ref m4, .ref m5, .int (iI mm), .ref m6, .ref m7, .int (iI um), .ref m8, .ref m9, .ref m10, .ref m11, .int (iI pd), .int (iI nd), .ref m12, .int (iI pal)])] (fun rr N0 => rr = some (.int (iI (-1))) ∧ N0 = [(m0, jO 7 [.int (iI 0), .int (iI ask), .int (iI fnd), .ref m1, .ref m2, .ref m3, .int (iI n), .int (iI wd), .ref m4, .ref m5, .int (iI mm), .ref m6, .ref m7, .int (iI um), .ref m8, .ref m9, .ref m10, .ref m11, .int (iI pd), .int (iI nd), .ref m12, .int (iI pal)])]) := by
  refine MC.of (by decide) rfl rfl ?_
  refine j_aload_0 1 dX7_lay_0 rfl ?_
  refine j_iconst 2 dX7_lay_1 ?_
  refine j_put 5 0 pf_X7_46 dX7_lay_2 rfl ⟨rfl, rfl, rfl⟩ ?_
  refine j_aload_0 6 dX7_lay_5 rfl ?_
  refine j_iload_1 7 dX7_lay_6 rfl ?_
  refine j_iload_2 8 dX7_lay_7 rfl ?_
  refine j_callVi 11 Y_X7_against [0] [_, _] (c_X7_against_bad E _ _ _ _ _ _ _ _ _ _ _ _ _ _ _ _ _ _ _ _ _ _ _ _ _ hr hb) m_X7_against wml_X7_68 dX7_lay_8 0 rfl rfl rfl rfl rfl rfl rfl rfl rfl rfl ?_
  refine j_istore 13 (lv' := [(0, _), (1, _), (2, _), (3, _), (4, _)]) dX7_lay_11 rfl ⟨rfl, rfl⟩ ?_
  refine j_iload 15 dX7_lay_13 rfl ?_
  refine j_if_eq 21 18 dX7_lay_15 (by first | with_reducible exact iI_rng _ | with_reducible exact bI_r _ | exact ⟨by omega, by omega⟩) (fun q15 => ?_) (fun q15 => ?_)
  · omega
  · refine j_iload 20 dX7_lay_18 rfl ?_
    exact j_iret dX7_lay_20 rfl rfl ⟨rfl, rfl⟩

set_option maxRecDepth 100000 in
set_option maxHeartbeats 4000000 in
theorem c_X7_lay_no (E : jD) (fnd : Int) (ask : Int) (wd : Int) (n : Int) (mm : Int) (um : Int) (nd : Int) (fm : Nat → Int) (m0 : Nat) (m1 : Nat) (m2 : Nat) (m3 : Nat) (m4 : Nat) (m5 : Nat) (m6 : Nat) (m7 : Nat) (m8 : Nat) (m9 : Nat) (m10 : Nat) (m11 : Nat) (m12 : Nat) (thr : Int) (pd : Int) (pal : Int) (rn : Nat → Int) (r : Nat) (i c : Int) (v : Int32) (hr4 : r < 4) (hN : -1 ≤ rn r ∧ rn r ≤ 48) (hi : jr i) (hc : (rn r < 0 ∧ c = 1) ∨ (0 ≤ rn r ∧ (i < 0 ∨ rn r ≤ i) ∧ c = 2)) : MC E Y_X7_lay [.ref m0, .int (iI (r : Int)), .int (iI i), .int v] [(m0, jO 7 [.int (iI thr), .int (iI ask), .int (iI fnd), .ref m1, .ref m2, .ref m3, .int (iI n), .int (iI wd), .ref m4, .ref m5, .int (iI mm), .ref m6, .ref m7, .int (iI um), .ref m8, .ref m9, .ref m10, .ref m11, .int (iI pd), .int (iI nd), .ref m12, .int (iI pal)]), (m1, jA E 5 (aI fm)), (m3, jA E 4 (aI rn))] (fun rr N0 => rr = some (.int (iI (rz c))) ∧ N0 = [(m0, jO 7 [.int (iI 0), .int (iI ask), .int (iI (rf c fnd)), .ref m1, .ref m2, .ref m3, .int (iI n), .int (iI wd), .ref m4, .ref m5, .int (iI mm), .ref m6, .ref m7, .int (iI um), .ref m8, .ref m9, .ref m10, .ref m11, .int (iI pd), .int (iI nd), .ref m12, .int (iI pal)]), (m1, jA E 5 (aI (rm c fm))), (m3, jA E 4 (aI rn))]) := by
  refine MC.of (by decide) rfl rfl ?_
  refine j_aload_0 1 dX7_lay_0 rfl ?_
  refine j_iconst 2 dX7_lay_1 ?_
  refine j_put 5 0 pf_X7_46 dX7_lay_2 rfl ⟨rfl, rfl, rfl⟩ ?_
  refine j_aload_0 6 dX7_lay_5 rfl ?_
  refine j_iload_1 7 dX7_lay_6 rfl ?_
  refine j_iload_2 8 dX7_lay_7 rfl ?_
  refine j_callV 11 Y_X7_against [0, 1, 2] [_, _] (c_X7_against_no E _ _ _ _ _ _ _ _ _ _ _ _ _ _ _ _ _ _ _ _ _ _ _ _ _ _ _ c hr4 hN hi (by omega)) m_X7_against wml_X7_68 dX7_lay_8 0 rfl rfl rfl rfl rfl rfl rfl rfl rfl (fun r N h => by obtain ⟨rfl, rfl⟩ := h; rfl) (fun r N h => ?_)
  obtain ⟨rfl, rfl⟩ := h
  refine j_istore 13 (lv' := [(0, _), (1, _), (2, _), (3, _), (4, _)]) dX7_lay_11 rfl ⟨rfl, rfl⟩ ?_
  have hz := rz_ne (c := c) (by omega)
  have hzr := rz_r (c := c) (by omega)
  refine j_iload 15 dX7_lay_13 rfl ?_
  refine j_if_eq 21 18 dX7_lay_15 hzr (fun q15 => ?_) (fun q15 => ?_)
  · omega
  · refine j_iload 20 dX7_lay_18 rfl ?_
    exact j_iret dX7_lay_20 rfl rfl ⟨rfl, rfl⟩

set_option maxRecDepth 100000 in
set_option maxHeartbeats 4000000 in
theorem c_X7_at_bad (E : jD) (fnd : Int) (ask : Int) (wd : Int) (n : Int) (mm : Int) (um : Int) (nd : Int) (m0 : Nat) (m1 : Nat) (m2 : Nat) (m3 : Nat) (m4 : Nat) (m5 : Nat) (m6 : Nat) (m7 : Nat) (m8 : Nat) (m9 : Nat) (m10 : Nat) (m11 : Nat) (m12 : Nat) (thr : Int) (pd : Int) (pal : Int) (r i : Int) (hr : jr r) (hb : r < 0 ∨ 4 ≤ r) : MC E Y_X7_at [.ref m0, .int (iI r), .int (iI i)] [(m0, jO 7 [.int (iI thr), .int (iI ask), .int (iI fnd), .ref m1, .ref m2, .ref m3, .int (iI n), .int (iI wd), .ref m4, .ref m5, .int (iI mm), .ref m6, .ref m7, .int (iI um), .ref m8, .ref m9, .ref m10, .ref m11, .int (iI pd), .int (iI nd), .ref m12, .int (iI pal)])] (fun rr N0 => rr = some (.int (iI (-1))) ∧ N0 = [(m0, jO 7 [.int (iI 0), .int (iI ask), .int (iI fnd), .ref m1, .ref m2, .ref m3, .int (iI n), .int (iI wd), .ref m4, .ref m5, .int (iI mm), .ref m6, .ref m7, .int (iI um), .ref m8, .ref m9, .ref m10, .ref m11, .int (iI pd), .int (iI nd), .ref m12, .int (iI pal)])]) := by
  refine MC.of (by decide) rfl rfl ?_
  refine j_aload_0 1 dX7_at_0 rfl ?_
  refine j_iconst 2 dX7_at_1 ?_
  refine j_put 5 0 pf_X7_46 dX7_at_2 rfl ⟨rfl, rfl, rfl⟩ ?_
  refine j_aload_0 6 dX7_at_5 rfl ?_
  refine j_iload_1 7 dX7_at_6 rfl ?_
  refine j_iload_2 8 dX7_at_7 rfl ?_
  refine j_callVi 11 Y_X7_against [0] [_, _] (c_X7_against_bad E _ _ _ _ _ _ _ _ _ _ _ _ _ _ _ _ _ _ _ _ _ _ _ _ _ hr hb) m_X7_against wml_X7_68 dX7_at_8 0 rfl rfl rfl rfl rfl rfl rfl rfl rfl rfl ?_
  refine j_istore_3 12 (lv' := [(0, _), (1, _), (2, _), (3, _)]) dX7_at_11 rfl ⟨rfl, rfl⟩ ?_
  refine j_iload_3 13 dX7_at_12 rfl ?_
  refine j_if_eq 20 16 dX7_at_13 (by first | with_reducible exact iI_rng _ | with_reducible exact bI_r _ | exact ⟨by omega, by omega⟩) (fun q13 => ?_) (fun q13 => ?_)
  · omega
  · refine j_iload_3 17 dX7_at_16 rfl ?_
    refine j_goto 36 dX7_at_17 ?_
    exact j_iret dX7_at_36 rfl rfl ⟨rfl, rfl⟩

set_option maxRecDepth 100000 in
set_option maxHeartbeats 4000000 in
theorem c_X7_at_no (E : jD) (fnd : Int) (ask : Int) (wd : Int) (n : Int) (mm : Int) (um : Int) (nd : Int) (fm : Nat → Int) (m0 : Nat) (m1 : Nat) (m2 : Nat) (m3 : Nat) (m4 : Nat) (m5 : Nat) (m6 : Nat) (m7 : Nat) (m8 : Nat) (m9 : Nat) (m10 : Nat) (m11 : Nat) (m12 : Nat) (thr : Int) (pd : Int) (pal : Int) (rn : Nat → Int) (r : Nat) (i c : Int) (hr4 : r < 4) (hN : -1 ≤ rn r ∧ rn r ≤ 48) (hi : jr i) (hc : (rn r < 0 ∧ c = 1) ∨ (0 ≤ rn r ∧ (i < 0 ∨ rn r ≤ i) ∧ c = 2)) : MC E Y_X7_at [.ref m0, .int (iI (r : Int)), .int (iI i)] [(m0, jO 7 [.int (iI thr), .int (iI ask), .int (iI fnd), .ref m1, .ref m2, .ref m3, .int (iI n), .int (iI wd), .ref m4, .ref m5, .int (iI mm), .ref m6, .ref m7, .int (iI um), .ref m8, .ref m9, .ref m10, .ref m11, .int (iI pd), .int (iI nd), .ref m12, .int (iI pal)]), (m1, jA E 5 (aI fm)), (m3, jA E 4 (aI rn))] (fun rr N0 => rr = some (.int (iI (rz c))) ∧ N0 = [(m0, jO 7 [.int (iI 0), .int (iI ask), .int (iI (rf c fnd)), .ref m1, .ref m2, .ref m3, .int (iI n), .int (iI wd), .ref m4, .ref m5, .int (iI mm), .ref m6, .ref m7, .int (iI um), .ref m8, .ref m9, .ref m10, .ref m11, .int (iI pd), .int (iI nd), .ref m12, .int (iI pal)]), (m1, jA E 5 (aI (rm c fm))), (m3, jA E 4 (aI rn))]) := by
  refine MC.of (by decide) rfl rfl ?_
  refine j_aload_0 1 dX7_at_0 rfl ?_
  refine j_iconst 2 dX7_at_1 ?_
  refine j_put 5 0 pf_X7_46 dX7_at_2 rfl ⟨rfl, rfl, rfl⟩ ?_
  refine j_aload_0 6 dX7_at_5 rfl ?_
  refine j_iload_1 7 dX7_at_6 rfl ?_
  refine j_iload_2 8 dX7_at_7 rfl ?_
  refine j_callV 11 Y_X7_against [0, 1, 2] [_, _] (c_X7_against_no E _ _ _ _ _ _ _ _ _ _ _ _ _ _ _ _ _ _ _ _ _ _ _ _ _ _ _ c hr4 hN hi (by omega)) m_X7_against wml_X7_68 dX7_at_8 0 rfl rfl rfl rfl rfl rfl rfl rfl rfl (fun r N h => by obtain ⟨rfl, rfl⟩ := h; rfl) (fun r N h => ?_)
  obtain ⟨rfl, rfl⟩ := h
  refine j_istore_3 12 (lv' := [(0, _), (1, _), (2, _), (3, _)]) dX7_at_11 rfl ⟨rfl, rfl⟩ ?_
  have hz := rz_ne (c := c) (by omega)
  have hzr := rz_r (c := c) (by omega)
  refine j_iload_3 13 dX7_at_12 rfl ?_
  refine j_if_eq 20 16 dX7_at_13 hzr (fun q13 => ?_) (fun q13 => ?_)
  · omega
  · refine j_iload_3 17 dX7_at_16 rfl ?_
    refine j_goto 36 dX7_at_17 ?_
    exact j_iret dX7_at_36 rfl rfl ⟨rfl, rfl⟩

set_option maxRecDepth 100000 in
set_option maxHeartbeats 4000000 in
theorem c_X7_row_bad (E : jD) (fnd : Int) (ask : Int) (wd : Int) (n : Int) (mm : Int) (um : Int) (nd : Int) (m0 : Nat) (m1 : Nat) (m2 : Nat) (m3 : Nat) (m4 : Nat) (m5 : Nat) (m6 : Nat) (m7 : Nat) (m8 : Nat) (m9 : Nat) (m10 : Nat) (m11 : Nat) (m12 : Nat) (thr : Int) (pd : Int) (pal : Int) (r n0 : Int) (hr : jr r) (hn : jr n0) (hb : r < 0 ∨ 4 ≤ r ∨ 48 < n0) : MC E Y_X7_row [.ref m0, .int (iI r), .int (iI n0)] [(m0, jO 7 [.int (iI thr), .int (iI ask), .int (iI fnd), .ref m1, .ref m2, .ref m3, .int (iI n), .int (iI wd), .ref m4, .ref m5, .int (iI mm), .ref m6, .ref m7, .int (iI um), .ref m8, .ref m9, .ref m10, .ref m11, .int (iI pd), .int (iI nd), .ref m12, .int (iI pal)])] (fun rr N0 => rr = some (.int (iI (-1))) ∧ N0 = [(m0, jO 7 [.int (iI 0), .int (iI ask), .int (iI fnd), .ref m1, .ref m2, .ref m3, .int (iI n), .int (iI wd), .ref m4, .ref m5, .int (iI mm), .ref m6, .ref m7, .int (iI um), .ref m8, .ref m9, .ref m10, .ref m11, .int (iI pd), .int (iI nd), .ref m12, .int (iI pal)])]) := by
  refine MC.of (by decide) rfl rfl ?_
  refine j_aload_0 1 dX7_row_0 rfl ?_
  refine j_iconst 2 dX7_row_1 ?_
  refine j_put 5 0 pf_X7_46 dX7_row_2 rfl ⟨rfl, rfl, rfl⟩ ?_
  refine j_iload_1 6 dX7_row_5 rfl ?_
  refine j_callSi 9 Y_X7_isRow [] [_] (c_X7_isRow E _ (by first | with_reducible assumption | with_reducible exact iI_rng _ | exact ⟨by omega, by omega⟩)) m_X7_isRow wml_X7_60 dX7_row_6 rfl rfl rfl rfl rfl rfl rfl ?_
  refine j_bif_eq 18 12 dX7_row_9 (fun q9 => ?_) (fun q9 => ?_)
  · refine j_iconst 19 dX7_row_18 ?_
    exact j_iret dX7_row_19 rfl rfl ⟨rfl, rfl⟩
  · refine j_iload_2 13 dX7_row_12 rfl ?_
    refine j_bipush 15 dX7_row_13 (by decide +kernel) ?_
    refine j_icmp_le 20 18 dX7_row_15 (by first | with_reducible exact iI_rng _ | with_reducible exact bI_r _ | exact ⟨by omega, by omega⟩) (by first | with_reducible exact iI_rng _ | with_reducible exact bI_r _ | exact ⟨by omega, by omega⟩) (fun q15 => ?_) (fun q15 => ?_)
    · omega
    · refine j_iconst 19 dX7_row_18 ?_
      exact j_iret dX7_row_19 rfl rfl ⟨rfl, rfl⟩

set_option maxRecDepth 100000 in
set_option maxHeartbeats 4000000 in
theorem c_X7_row_no (E : jD) (fnd : Int) (ask : Int) (wd : Int) (n : Int) (mm : Int) (um : Int) (nd : Int) (fm : Nat → Int) (m0 : Nat) (m1 : Nat) (m2 : Nat) (m3 : Nat) (m4 : Nat) (m5 : Nat) (m6 : Nat) (m7 : Nat) (m8 : Nat) (m9 : Nat) (m10 : Nat) (m11 : Nat) (m12 : Nat) (thr : Int) (pd : Int) (pal : Int) (r : Nat) (n0 c : Int) (hr4 : r < 4) (hn : jr n0) (hb : n0 < 0 ∧ c = 3) : MC E Y_X7_row [.ref m0, .int (iI (r : Int)), .int (iI n0)] [(m0, jO 7 [.int (iI thr), .int (iI ask), .int (iI fnd), .ref m1, .ref m2, .ref m3, .int (iI n), .int (iI wd), .ref m4, .ref m5, .int (iI mm), .ref m6, .ref m7, .int (iI um), .ref m8, .ref m9, .ref m10, .ref m11, .int (iI pd), .int (iI nd), .ref m12, .int (iI pal)]), (m1, jA E 5 (aI fm))] (fun rr N0 => rr = some (.int (iI (rz c))) ∧ N0 = [(m0, jO 7 [.int (iI 0), .int (iI ask), .int (iI (rf c fnd)), .ref m1, .ref m2, .ref m3, .int (iI n), .int (iI wd), .ref m4, .ref m5, .int (iI mm), .ref m6, .ref m7, .int (iI um), .ref m8, .ref m9, .ref m10, .ref m11, .int (iI pd), .int (iI nd), .ref m12, .int (iI pal)]), (m1, jA E 5 (aI (rm c fm)))]) := by
  refine MC.of (by decide) rfl rfl ?_
  refine j_aload_0 1 dX7_row_0 rfl ?_
  refine j_iconst 2 dX7_row_1 ?_
  refine j_put 5 0 pf_X7_46 dX7_row_2 rfl ⟨rfl, rfl, rfl⟩ ?_
  refine j_iload_1 6 dX7_row_5 rfl ?_
  refine j_callSi 9 Y_X7_isRow [] [_] (c_X7_isRow E _ (by first | with_reducible assumption | with_reducible exact iI_rng _ | exact ⟨by omega, by omega⟩)) m_X7_isRow wml_X7_60 dX7_row_6 rfl rfl rfl rfl rfl rfl rfl ?_
  refine j_bif_eq 18 12 dX7_row_9 (fun q9 => ?_) (fun q9 => ?_)
  · omega
  · refine j_iload_2 13 dX7_row_12 rfl ?_
    refine j_bipush 15 dX7_row_13 (by decide +kernel) ?_
    refine j_icmp_le 20 18 dX7_row_15 (by first | with_reducible exact iI_rng _ | with_reducible exact bI_r _ | exact ⟨by omega, by omega⟩) (by first | with_reducible exact iI_rng _ | with_reducible exact bI_r _ | exact ⟨by omega, by omega⟩) (fun q15 => ?_) (fun q15 => ?_)
    · refine j_iload_2 21 dX7_row_20 rfl ?_
      refine j_if_ge 30 24 dX7_row_21 (by first | with_reducible exact iI_rng _ | with_reducible exact bI_r _ | exact ⟨by omega, by omega⟩) (fun q21 => ?_) (fun q21 => ?_)
      · omega
      · refine j_aload_0 25 dX7_row_24 rfl ?_
        refine j_iconst 26 dX7_row_25 ?_
        refine j_callV 29 Y_X7_found [0, 1] [_] (c_X7_found E _ _ _ _ _ _ _ _ _ _ _ _ _ _ _ _ _ _ _ _ _ _ _ _ 3 (by decide)) m_X7_found wml_X7_64 dX7_row_26 0 rfl rfl rfl rfl rfl rfl rfl rfl rfl (fun r N h => by obtain ⟨rfl, rfl⟩ := h; rfl) (fun r N h => ?_)
        obtain ⟨rfl, rfl⟩ := h
        obtain rfl : c = 3 := by omega
        exact j_iret dX7_row_29 rfl rfl ⟨rfl, rfl⟩
    · omega

def zrF (f : Nat → Int32) (a k : Nat) : Nat → Int32 := fun j => if a ≤ j ∧ j < a + k then iI 0 else f j
theorem zrF_0 (f : Nat → Int32) (a : Nat) : zrF f a 0 = f := by
  funext j; unfold zrF; rw [if_neg (by omega)]
theorem zrF_s (f : Nat → Int32) (a k : Nat) : upd (zrF f a k) (a + k) (iI 0) = zrF f a (k + 1) := by
  funext j
  unfold upd zrF
  by_cases h : j = a + k
  · rw [if_pos h, if_pos (by omega)]
  · rw [if_neg h]
    by_cases h2 : a ≤ j ∧ j < a + k
    · rw [if_pos h2, if_pos (by omega)]
    · rw [if_neg h2, if_neg (by omega)]
def setI (q : Nat → Int) (r : Nat) (z : Int) : Nat → Int := fun j => if j = r then z else q j
theorem aI_set (q : Nat → Int) (r : Nat) (z : Int) : upd (aI q) r (iI z) = aI (setI q r z) := by
  funext j
  unfold upd aI setI
  by_cases h : j = r
  · rw [if_pos h, if_pos h]
  · rw [if_neg h, if_neg h]
/-- a part of one array over a part of another -/
def cpF (s d : Nat → Int32) (a b k : Nat) : Nat → Int32 := fun j => if b ≤ j ∧ j < b + k then s (a + (j - b)) else d j
theorem cpF_0 (s d : Nat → Int32) (a b : Nat) : cpF s d a b 0 = d := by
  funext j; unfold cpF; rw [if_neg (by omega)]
theorem cpF_s (s d : Nat → Int32) (a b k : Nat) : upd (cpF s d a b k) (b + k) (s (a + k)) = cpF s d a b (k + 1) := by
  funext j
  unfold upd cpF
  by_cases h : j = b + k
  · rw [if_pos h, if_pos (by omega), h]
    congr 1; omega
  · rw [if_neg h]
    by_cases h2 : b ≤ j ∧ j < b + k
    · rw [if_pos h2, if_pos (by omega)]
    · rw [if_neg h2, if_neg (by omega)]

set_option maxRecDepth 100000 in
set_option maxHeartbeats 4000000 in
theorem lp7_row (E : jD) (fnd : Int) (ask : Int) (wd : Int) (n : Int) (mm : Int) (um : Int) (nd : Int) (m0 : Nat) (m1 : Nat) (m2 : Nat) (m3 : Nat) (m4 : Nat) (m5 : Nat) (m6 : Nat) (m7 : Nat) (m8 : Nat) (m9 : Nat) (m10 : Nat) (m11 : Nat) (m12 : Nat) (pd : Int) (pal : Int) (rn : Nat → Int) (rw0 : Nat → Int32) (r n0 : Nat) (hr4 : r < 4) (hn : n0 ≤ 48) : ∀ (d : Nat) (k : Nat), n0 - k < d → (k ≤ n0) → J E Y_X7_row (jZm E Y_X7_row (fun rr N0 => rr = some (.int (iI ((n0 : Int)))) ∧ N0 = [(m0, jO 7 [.int (iI 0), .int (iI ask), .int (iI fnd), .ref m1, .ref m2, .ref m3, .int (iI n), .int (iI wd), .ref m4, .ref m5, .int (iI mm), .ref m6, .ref m7, .int (iI um), .ref m8, .ref m9, .ref m10, .ref m11, .int (iI pd), .int (iI nd), .ref m12, .int (iI pal)]), (m2, jA E 192 (zrF rw0 (48 * r) n0)), (m3, jA E 4 (aI (setI rn r (n0 : Int))))])) 0 0 39 [(0, .ref m0), (1, .int (iI (r : Int))), (2, .int (iI (n0 : Int))), (3, .int (iI (k : Int)))] [] [(m0, jO 7 [.int (iI 0), .int (iI ask), .int (iI fnd), .ref m1, .ref m2, .ref m3, .int (iI n), .int (iI wd), .ref m4, .ref m5, .int (iI mm), .ref m6, .ref m7, .int (iI um), .ref m8, .ref m9, .ref m10, .ref m11, .int (iI pd), .int (iI nd), .ref m12, .int (iI pal)]), (m2, jA E 192 (zrF rw0 (48 * r) k)), (m3, jA E 4 (aI (setI rn r (n0 : Int))))] := by
  intro d
  induction d with
  | zero => intros; omega
  | succ d ih =>
    intro k hd hk
    refine j_iload_3 40 dX7_row_39 rfl ?_
    refine j_iload_2 41 dX7_row_40 rfl ?_
    refine j_icmp_ge 62 44 dX7_row_41 (by first | with_reducible exact iI_rng _ | with_reducible exact bI_r _ | exact ⟨by omega, by omega⟩) (by first | with_reducible exact iI_rng _ | with_reducible exact bI_r _ | exact ⟨by omega, by omega⟩) (fun q41 => ?_) (fun q41 => ?_)
    · have e0 : k = n0 := by omega
      subst e0
      refine j_iload_2 63 dX7_row_62 rfl ?_
      exact j_iret dX7_row_63 rfl rfl ⟨rfl, rfl⟩
    · refine j_aload_0 45 dX7_row_44 rfl ?_
      refine j_get 48 0 gf_X7_13 dX7_row_45 rfl rfl ?_
      refine j_bipush 50 dX7_row_48 (by decide +kernel) ?_
      refine j_iload_1 51 dX7_row_50 rfl ?_
      refine j_imul 52 dX7_row_51 ?_
      refine j_iload_3 53 dX7_row_52 rfl ?_
      refine j_iadd 54 dX7_row_53 ?_
      refine j_iconst 55 dX7_row_54 ?_
      refine j_iast 56 1 (48 * r + k) dX7_row_55 rfl rfl (by omega) (by omega) ?_
      refine j_eqM (M' := [(m0, jO 7 [.int (iI 0), .int (iI ask), .int (iI fnd), .ref m1, .ref m2, .ref m3, .int (iI n), .int (iI wd), .ref m4, .ref m5, .int (iI mm), .ref m6, .ref m7, .int (iI um), .ref m8, .ref m9, .ref m10, .ref m11, .int (iI pd), .int (iI nd), .ref m12, .int (iI pal)]), (m2, jA E 192 (zrF rw0 (48 * r) (k + 1))), (m3, jA E 4 (aI (setI rn r (n0 : Int))))]) (by rw [← zrF_s]; rfl) ?_
      refine j_iinc 59 (lv' := [(0, _), (1, _), (2, _), (3, _)]) dX7_row_56 rfl rfl ⟨rfl, rfl⟩ ?_
      refine j_goto 39 dX7_row_59 ?_
      exact ih (k + 1) (by omega) (by omega)

set_option maxRecDepth 100000 in
set_option maxHeartbeats 4000000 in
theorem c_X7_row_ok (E : jD) (fnd : Int) (ask : Int) (wd : Int) (n : Int) (mm : Int) (um : Int) (nd : Int) (m0 : Nat) (m1 : Nat) (m2 : Nat) (m3 : Nat) (m4 : Nat) (m5 : Nat) (m6 : Nat) (m7 : Nat) (m8 : Nat) (m9 : Nat) (m10 : Nat) (m11 : Nat) (m12 : Nat) (thr : Int) (pd : Int) (pal : Int) (rn : Nat → Int) (rw0 : Nat → Int32) (r n0 : Nat) (hr4 : r < 4) (hn : n0 ≤ 48) : MC E Y_X7_row [.ref m0, .int (iI (r : Int)), .int (iI (n0 : Int))] [(m0, jO 7 [.int (iI thr), .int (iI ask), .int (iI fnd), .ref m1, .ref m2, .ref m3, .int (iI n), .int (iI wd), .ref m4, .ref m5, .int (iI mm), .ref m6, .ref m7, .int (iI um), .ref m8, .ref m9, .ref m10, .ref m11, .int (iI pd), .int (iI nd), .ref m12, .int (iI pal)]), (m2, jA E 192 rw0), (m3, jA E 4 (aI rn))] (fun rr N0 => rr = some (.int (iI ((n0 : Int)))) ∧ N0 = [(m0, jO 7 [.int (iI 0), .int (iI ask), .int (iI fnd), .ref m1, .ref m2, .ref m3, .int (iI n), .int (iI wd), .ref m4, .ref m5, .int (iI mm), .ref m6, .ref m7, .int (iI um), .ref m8, .ref m9, .ref m10, .ref m11, .int (iI pd), .int (iI nd), .ref m12, .int (iI pal)]), (m2, jA E 192 (zrF rw0 (48 * r) n0)), (m3, jA E 4 (aI (setI rn r (n0 : Int))))]) := by
  refine MC.of (by decide) rfl rfl ?_
  refine j_aload_0 1 dX7_row_0 rfl ?_
  refine j_iconst 2 dX7_row_1 ?_
  refine j_put 5 0 pf_X7_46 dX7_row_2 rfl ⟨rfl, rfl, rfl⟩ ?_
  refine j_iload_1 6 dX7_row_5 rfl ?_
  refine j_callSi 9 Y_X7_isRow [] [_] (c_X7_isRow E _ (by first | with_reducible assumption | with_reducible exact iI_rng _ | exact ⟨by omega, by omega⟩)) m_X7_isRow wml_X7_60 dX7_row_6 rfl rfl rfl rfl rfl rfl rfl ?_
  refine j_bif_eq 18 12 dX7_row_9 (fun q9 => ?_) (fun q9 => ?_)
  · omega
  · refine j_iload_2 13 dX7_row_12 rfl ?_
    refine j_bipush 15 dX7_row_13 (by decide +kernel) ?_
    refine j_icmp_le 20 18 dX7_row_15 (by first | with_reducible exact iI_rng _ | with_reducible exact bI_r _ | exact ⟨by omega, by omega⟩) (by first | with_reducible exact iI_rng _ | with_reducible exact bI_r _ | exact ⟨by omega, by omega⟩) (fun q15 => ?_) (fun q15 => ?_)
    · refine j_iload_2 21 dX7_row_20 rfl ?_
      refine j_if_ge 30 24 dX7_row_21 (by first | with_reducible exact iI_rng _ | with_reducible exact bI_r _ | exact ⟨by omega, by omega⟩) (fun q21 => ?_) (fun q21 => ?_)
      · refine j_aload_0 31 dX7_row_30 rfl ?_
        refine j_get 34 0 gf_X7_16 dX7_row_31 rfl rfl ?_
        refine j_iload_1 35 dX7_row_34 rfl ?_
        refine j_iload_2 36 dX7_row_35 rfl ?_
        refine j_iast 37 2 _ dX7_row_36 rfl rfl rfl (by omega) ?_
        refine j_iconst 38 dX7_row_37 ?_
        refine j_istore_3 39 (lv' := [(0, _), (1, _), (2, _), (3, _)]) dX7_row_38 rfl ⟨rfl, rfl⟩ ?_
        refine j_eqM (M' := [(m0, jO 7 [.int (iI 0), .int (iI ask), .int (iI fnd), .ref m1, .ref m2, .ref m3, .int (iI n), .int (iI wd), .ref m4, .ref m5, .int (iI mm), .ref m6, .ref m7, .int (iI um), .ref m8, .ref m9, .ref m10, .ref m11, .int (iI pd), .int (iI nd), .ref m12, .int (iI pal)]), (m2, jA E 192 (zrF rw0 (48 * r) 0)), (m3, jA E 4 (aI (setI rn r (n0 : Int))))]) (by rw [zrF_0, ← aI_set]; rfl) ?_
        exact lp7_row E fnd ask wd n mm um nd m0 m1 m2 m3 m4 m5 m6 m7 m8 m9 m10 m11 m12 pd pal rn rw0 r n0 hr4 hn (n0 + 1) 0 (by omega) (by omega)
      · omega
    · omega

set_option maxRecDepth 100000 in
set_option maxHeartbeats 4000000 in
theorem c_X7_lay_ok (E : jD) (fnd : Int) (ask : Int) (wd : Int) (n : Int) (mm : Int) (um : Int) (nd : Int) (m0 : Nat) (m1 : Nat) (m2 : Nat) (m3 : Nat) (m4 : Nat) (m5 : Nat) (m6 : Nat) (m7 : Nat) (m8 : Nat) (m9 : Nat) (m10 : Nat) (m11 : Nat) (m12 : Nat) (thr : Int) (pd : Int) (pal : Int) (rn : Nat → Int) (rw0 : Nat → Int32) (r i : Nat) (v : Int32) (hr4 : r < 4) (hN : -1 ≤ rn r ∧ rn r ≤ 48) (hi : (i : Int) < rn r) : MC E Y_X7_lay [.ref m0, .int (iI (r : Int)), .int (iI (i : Int)), .int v] [(m0, jO 7 [.int (iI thr), .int (iI ask), .int (iI fnd), .ref m1, .ref m2, .ref m3, .int (iI n), .int (iI wd), .ref m4, .ref m5, .int (iI mm), .ref m6, .ref m7, .int (iI um), .ref m8, .ref m9, .ref m10, .ref m11, .int (iI pd), .int (iI nd), .ref m12, .int (iI pal)]), (m2, jA E 192 rw0), (m3, jA E 4 (aI rn))] (fun rr N0 => rr = some (.int (iI (1))) ∧ N0 = [(m0, jO 7 [.int (iI 0), .int (iI (rw0 (48 * r + i)).toInt), .int (iI fnd), .ref m1, .ref m2, .ref m3, .int (iI n), .int (iI wd), .ref m4, .ref m5, .int (iI mm), .ref m6, .ref m7, .int (iI um), .ref m8, .ref m9, .ref m10, .ref m11, .int (iI pd), .int (iI nd), .ref m12, .int (iI pal)]), (m2, jA E 192 (upd rw0 (48 * r + i) v)), (m3, jA E 4 (aI rn))]) := by
  refine MC.of (by decide) rfl rfl ?_
  refine j_aload_0 1 dX7_lay_0 rfl ?_
  refine j_iconst 2 dX7_lay_1 ?_
  refine j_put 5 0 pf_X7_46 dX7_lay_2 rfl ⟨rfl, rfl, rfl⟩ ?_
  refine j_aload_0 6 dX7_lay_5 rfl ?_
  refine j_iload_1 7 dX7_lay_6 rfl ?_
  refine j_iload_2 8 dX7_lay_7 rfl ?_
  refine j_callVi 11 Y_X7_against [0, 2] [_, _] (c_X7_against_ok E _ _ _ _ _ _ _ _ _ _ _ _ _ _ _ _ _ _ _ _ _ _ _ _ _ _ hr4 hN (by omega)) m_X7_against wml_X7_68 dX7_lay_8 0 rfl rfl rfl rfl rfl rfl rfl rfl rfl rfl ?_
  refine j_istore 13 (lv' := [(0, _), (1, _), (2, _), (3, _), (4, _)]) dX7_lay_11 rfl ⟨rfl, rfl⟩ ?_
  refine j_iload 15 dX7_lay_13 rfl ?_
  refine j_if_eq 21 18 dX7_lay_15 (by first | with_reducible exact iI_rng _ | with_reducible exact bI_r _ | exact ⟨by omega, by omega⟩) (fun q15 => ?_) (fun q15 => ?_)
  · refine j_aload_0 22 dX7_lay_21 rfl ?_
    refine j_get 25 0 gf_X7_13 dX7_lay_22 rfl rfl ?_
    refine j_bipush 27 dX7_lay_25 (by decide +kernel) ?_
    refine j_iload_1 28 dX7_lay_27 rfl ?_
    refine j_imul 29 dX7_lay_28 ?_
    refine j_iload_2 30 dX7_lay_29 rfl ?_
    refine j_iadd 31 dX7_lay_30 ?_
    refine j_iald 32 1 (48 * r + i) dX7_lay_31 rfl rfl (by omega) (by omega) ?_
    refine j_istore 34 (lv' := [(0, _), (1, _), (2, _), (3, _), (4, _), (5, _)]) dX7_lay_32 rfl ⟨rfl, rfl⟩ ?_
    refine j_aload_0 35 dX7_lay_34 rfl ?_
    refine j_get 38 0 gf_X7_13 dX7_lay_35 rfl rfl ?_
    refine j_bipush 40 dX7_lay_38 (by decide +kernel) ?_
    refine j_iload_1 41 dX7_lay_40 rfl ?_
    refine j_imul 42 dX7_lay_41 ?_
    refine j_iload_2 43 dX7_lay_42 rfl ?_
    refine j_iadd 44 dX7_lay_43 ?_
    refine j_iload_3 45 dX7_lay_44 rfl ?_
    refine j_iast 46 1 (48 * r + i) dX7_lay_45 rfl rfl (by omega) (by omega) ?_
    refine j_aload_0 47 dX7_lay_46 rfl ?_
    refine j_iconst 48 dX7_lay_47 ?_
    refine j_iload 50 dX7_lay_48 rfl ?_
    refine j_callV 53 Y_X7_tells [0] [_, _] (c_X7_tells E _ _ _ _ _ _ _ _ _ _ _ _ _ _ _ _ _ _ _ _ _ _ _ _ _) m_X7_tells wml_X7_72 dX7_lay_50 0 rfl rfl rfl rfl rfl rfl rfl rfl rfl (fun r N h => by obtain ⟨rfl, rfl⟩ := h; rfl) (fun r N h => ?_)
    obtain ⟨rfl, rfl⟩ := h
    exact j_iret dX7_lay_53 rfl rfl ⟨rfl, rfl⟩
  · omega

set_option maxRecDepth 100000 in
set_option maxHeartbeats 4000000 in
theorem c_X7_at_ok (E : jD) (fnd : Int) (ask : Int) (wd : Int) (n : Int) (mm : Int) (um : Int) (nd : Int) (m0 : Nat) (m1 : Nat) (m2 : Nat) (m3 : Nat) (m4 : Nat) (m5 : Nat) (m6 : Nat) (m7 : Nat) (m8 : Nat) (m9 : Nat) (m10 : Nat) (m11 : Nat) (m12 : Nat) (thr : Int) (pd : Int) (pal : Int) (rn : Nat → Int) (rw0 : Nat → Int32) (r i : Nat) (hr4 : r < 4) (hN : -1 ≤ rn r ∧ rn r ≤ 48) (hi : (i : Int) < rn r) : MC E Y_X7_at [.ref m0, .int (iI (r : Int)), .int (iI (i : Int))] [(m0, jO 7 [.int (iI thr), .int (iI ask), .int (iI fnd), .ref m1, .ref m2, .ref m3, .int (iI n), .int (iI wd), .ref m4, .ref m5, .int (iI mm), .ref m6, .ref m7, .int (iI um), .ref m8, .ref m9, .ref m10, .ref m11, .int (iI pd), .int (iI nd), .ref m12, .int (iI pal)]), (m2, jA E 192 rw0), (m3, jA E 4 (aI rn))] (fun rr N0 => rr = some (.int (iI (1))) ∧ N0 = [(m0, jO 7 [.int (iI 0), .int (iI (rw0 (48 * r + i)).toInt), .int (iI fnd), .ref m1, .ref m2, .ref m3, .int (iI n), .int (iI wd), .ref m4, .ref m5, .int (iI mm), .ref m6, .ref m7, .int (iI um), .ref m8, .ref m9, .ref m10, .ref m11, .int (iI pd), .int (iI nd), .ref m12, .int (iI pal)]), (m2, jA E 192 rw0), (m3, jA E 4 (aI rn))]) := by
  refine MC.of (by decide) rfl rfl ?_
  refine j_aload_0 1 dX7_at_0 rfl ?_
  refine j_iconst 2 dX7_at_1 ?_
  refine j_put 5 0 pf_X7_46 dX7_at_2 rfl ⟨rfl, rfl, rfl⟩ ?_
  refine j_aload_0 6 dX7_at_5 rfl ?_
  refine j_iload_1 7 dX7_at_6 rfl ?_
  refine j_iload_2 8 dX7_at_7 rfl ?_
  refine j_callVi 11 Y_X7_against [0, 2] [_, _] (c_X7_against_ok E _ _ _ _ _ _ _ _ _ _ _ _ _ _ _ _ _ _ _ _ _ _ _ _ _ _ hr4 hN (by omega)) m_X7_against wml_X7_68 dX7_at_8 0 rfl rfl rfl rfl rfl rfl rfl rfl rfl rfl ?_
  refine j_istore_3 12 (lv' := [(0, _), (1, _), (2, _), (3, _)]) dX7_at_11 rfl ⟨rfl, rfl⟩ ?_
  refine j_iload_3 13 dX7_at_12 rfl ?_
  refine j_if_eq 20 16 dX7_at_13 (by first | with_reducible exact iI_rng _ | with_reducible exact bI_r _ | exact ⟨by omega, by omega⟩) (fun q13 => ?_) (fun q13 => ?_)
  · refine j_aload_0 21 dX7_at_20 rfl ?_
    refine j_iconst 22 dX7_at_21 ?_
    refine j_aload_0 23 dX7_at_22 rfl ?_
    refine j_get 26 0 gf_X7_13 dX7_at_23 rfl rfl ?_
    refine j_bipush 28 dX7_at_26 (by decide +kernel) ?_
    refine j_iload_1 29 dX7_at_28 rfl ?_
    refine j_imul 30 dX7_at_29 ?_
    refine j_iload_2 31 dX7_at_30 rfl ?_
    refine j_iadd 32 dX7_at_31 ?_
    refine j_iald 33 1 (48 * r + i) dX7_at_32 rfl rfl (by omega) (by omega) ?_
    refine j_callV 36 Y_X7_tells [0] [_, _] (c_X7_tells E _ _ _ _ _ _ _ _ _ _ _ _ _ _ _ _ _ _ _ _ _ _ _ _ _) m_X7_tells wml_X7_72 dX7_at_33 0 rfl rfl rfl rfl rfl rfl rfl rfl rfl (fun r N h => by obtain ⟨rfl, rfl⟩ := h; rfl) (fun r N h => ?_)
    obtain ⟨rfl, rfl⟩ := h
    exact j_iret dX7_at_36 rfl rfl ⟨rfl, rfl⟩
  · omega

set_option maxRecDepth 100000 in
set_option maxHeartbeats 4000000 in
theorem c_X7_tear_bad (E : jD) (fnd : Int) (ask : Int) (wd : Int) (n : Int) (mm : Int) (um : Int) (nd : Int) (m0 : Nat) (m1 : Nat) (m2 : Nat) (m3 : Nat) (m4 : Nat) (m5 : Nat) (m6 : Nat) (m7 : Nat) (m8 : Nat) (m9 : Nat) (m10 : Nat) (m11 : Nat) (m12 : Nat) (thr : Int) (pd : Int) (pal : Int) (r : Int) (hr : jr r) (hb : r < 0 ∨ 4 ≤ r) : MC E Y_X7_tear [.ref m0, .int (iI r)] [(m0, jO 7 [.int (iI thr), .int (iI ask), .int (iI fnd), .ref m1, .ref m2, .ref m3, .int (iI n), .int (iI wd), .ref m4, .ref m5, .int (iI mm), .ref m6, .ref m7, .int (iI um), .ref m8, .ref m9, .ref m10, .ref m11, .int (iI pd), .int (iI nd), .ref m12, .int (iI pal)])] (fun rr N0 => rr = some (.int (iI (-1))) ∧ N0 = [(m0, jO 7 [.int (iI 0), .int (iI ask), .int (iI fnd), .ref m1, .ref m2, .ref m3, .int (iI n), .int (iI wd), .ref m4, .ref m5, .int (iI mm), .ref m6, .ref m7, .int (iI um), .ref m8, .ref m9, .ref m10, .ref m11, .int (iI pd), .int (iI nd), .ref m12, .int (iI pal)])]) := by
  refine MC.of (by decide) rfl rfl ?_
  refine j_aload_0 1 dX7_tear_0 rfl ?_
  refine j_iconst 2 dX7_tear_1 ?_
  refine j_put 5 0 pf_X7_46 dX7_tear_2 rfl ⟨rfl, rfl, rfl⟩ ?_
  refine j_iload_1 6 dX7_tear_5 rfl ?_
  refine j_callSi 9 Y_X7_isRow [] [_] (c_X7_isRow E _ (by first | with_reducible assumption | with_reducible exact iI_rng _ | exact ⟨by omega, by omega⟩)) m_X7_isRow wml_X7_60 dX7_tear_6 rfl rfl rfl rfl rfl rfl rfl ?_
  refine j_bif_ne 14 12 dX7_tear_9 (fun q9 => ?_) (fun q9 => ?_)
  · omega
  · refine j_iconst 13 dX7_tear_12 ?_
    exact j_iret dX7_tear_13 rfl rfl ⟨rfl, rfl⟩

set_option maxRecDepth 100000 in
set_option maxHeartbeats 4000000 in
theorem c_X7_tear_no (E : jD) (fnd : Int) (ask : Int) (wd : Int) (n : Int) (mm : Int) (um : Int) (nd : Int) (fm : Nat → Int) (m0 : Nat) (m1 : Nat) (m2 : Nat) (m3 : Nat) (m4 : Nat) (m5 : Nat) (m6 : Nat) (m7 : Nat) (m8 : Nat) (m9 : Nat) (m10 : Nat) (m11 : Nat) (m12 : Nat) (thr : Int) (pd : Int) (pal : Int) (rn : Nat → Int) (r : Nat) (c : Int) (hr4 : r < 4) (hN : -1 ≤ rn r ∧ rn r ≤ 48) (hc : rn r < 0 ∧ c = 1) : MC E Y_X7_tear [.ref m0, .int (iI (r : Int))] [(m0, jO 7 [.int (iI thr), .int (iI ask), .int (iI fnd), .ref m1, .ref m2, .ref m3, .int (iI n), .int (iI wd), .ref m4, .ref m5, .int (iI mm), .ref m6, .ref m7, .int (iI um), .ref m8, .ref m9, .ref m10, .ref m11, .int (iI pd), .int (iI nd), .ref m12, .int (iI pal)]), (m1, jA E 5 (aI fm)), (m3, jA E 4 (aI rn))] (fun rr N0 => rr = some (.int (iI (rz c))) ∧ N0 = [(m0, jO 7 [.int (iI 0), .int (iI ask), .int (iI (rf c fnd)), .ref m1, .ref m2, .ref m3, .int (iI n), .int (iI wd), .ref m4, .ref m5, .int (iI mm), .ref m6, .ref m7, .int (iI um), .ref m8, .ref m9, .ref m10, .ref m11, .int (iI pd), .int (iI nd), .ref m12, .int (iI pal)]), (m1, jA E 5 (aI (rm c fm))), (m3, jA E 4 (aI rn))]) := by
  refine MC.of (by decide) rfl rfl ?_
  refine j_aload_0 1 dX7_tear_0 rfl ?_
  refine j_iconst 2 dX7_tear_1 ?_
  refine j_put 5 0 pf_X7_46 dX7_tear_2 rfl ⟨rfl, rfl, rfl⟩ ?_
  refine j_iload_1 6 dX7_tear_5 rfl ?_
  refine j_callSi 9 Y_X7_isRow [] [_] (c_X7_isRow E _ (by first | with_reducible assumption | with_reducible exact iI_rng _ | exact ⟨by omega, by omega⟩)) m_X7_isRow wml_X7_60 dX7_tear_6 rfl rfl rfl rfl rfl rfl rfl ?_
  refine j_bif_ne 14 12 dX7_tear_9 (fun q9 => ?_) (fun q9 => ?_)
  · refine j_aload_0 15 dX7_tear_14 rfl ?_
    refine j_get 18 0 gf_X7_16 dX7_tear_15 rfl rfl ?_
    refine j_iload_1 19 dX7_tear_18 rfl ?_
    refine j_ialdw 20 2 _ (rn r) dX7_tear_19 rfl rfl rfl (by omega) rfl ?_
    refine j_if_ge 29 23 dX7_tear_20 (by first | with_reducible exact iI_rng _ | with_reducible exact bI_r _ | exact ⟨by omega, by omega⟩) (fun q20 => ?_) (fun q20 => ?_)
    · omega
    · refine j_aload_0 24 dX7_tear_23 rfl ?_
      refine j_iconst 25 dX7_tear_24 ?_
      refine j_callV 28 Y_X7_found [0, 1] [_] (c_X7_found E _ _ _ _ _ _ _ _ _ _ _ _ _ _ _ _ _ _ _ _ _ _ _ _ 1 (by decide)) m_X7_found wml_X7_64 dX7_tear_25 0 rfl rfl rfl rfl rfl rfl rfl rfl rfl (fun r N h => by obtain ⟨rfl, rfl⟩ := h; rfl) (fun r N h => ?_)
      obtain ⟨rfl, rfl⟩ := h
      obtain rfl : c = 1 := by omega
      exact j_iret dX7_tear_28 rfl rfl ⟨rfl, rfl⟩
  · omega

set_option maxRecDepth 100000 in
set_option maxHeartbeats 4000000 in
theorem c_X7_tear_ok (E : jD) (fnd : Int) (ask : Int) (wd : Int) (n : Int) (mm : Int) (um : Int) (nd : Int) (m0 : Nat) (m1 : Nat) (m2 : Nat) (m3 : Nat) (m4 : Nat) (m5 : Nat) (m6 : Nat) (m7 : Nat) (m8 : Nat) (m9 : Nat) (m10 : Nat) (m11 : Nat) (m12 : Nat) (thr : Int) (pd : Int) (pal : Int) (rn : Nat → Int) (r : Nat) (hr4 : r < 4) (hN : -1 ≤ rn r ∧ rn r ≤ 48) (hc : 0 ≤ rn r) : MC E Y_X7_tear [.ref m0, .int (iI (r : Int))] [(m0, jO 7 [.int (iI thr), .int (iI ask), .int (iI fnd), .ref m1, .ref m2, .ref m3, .int (iI n), .int (iI wd), .ref m4, .ref m5, .int (iI mm), .ref m6, .ref m7, .int (iI um), .ref m8, .ref m9, .ref m10, .ref m11, .int (iI pd), .int (iI nd), .ref m12, .int (iI pal)]), (m3, jA E 4 (aI rn))] (fun rr N0 => rr = some (.int (iI (rn r))) ∧ N0 = [(m0, jO 7 [.int (iI 0), .int (iI ask), .int (iI fnd), .ref m1, .ref m2, .ref m3, .int (iI n), .int (iI wd), .ref m4, .ref m5, .int (iI mm), .ref m6, .ref m7, .int (iI um), .ref m8, .ref m9, .ref m10, .ref m11, .int (iI pd), .int (iI nd), .ref m12, .int (iI pal)]), (m3, jA E 4 (aI (setI rn r (-1))))]) := by
  refine MC.of (by decide) rfl rfl ?_
  refine j_aload_0 1 dX7_tear_0 rfl ?_
  refine j_iconst 2 dX7_tear_1 ?_
  refine j_put 5 0 pf_X7_46 dX7_tear_2 rfl ⟨rfl, rfl, rfl⟩ ?_
  refine j_iload_1 6 dX7_tear_5 rfl ?_
  refine j_callSi 9 Y_X7_isRow [] [_] (c_X7_isRow E _ (by first | with_reducible assumption | with_reducible exact iI_rng _ | exact ⟨by omega, by omega⟩)) m_X7_isRow wml_X7_60 dX7_tear_6 rfl rfl rfl rfl rfl rfl rfl ?_
  refine j_bif_ne 14 12 dX7_tear_9 (fun q9 => ?_) (fun q9 => ?_)
  · refine j_aload_0 15 dX7_tear_14 rfl ?_
    refine j_get 18 0 gf_X7_16 dX7_tear_15 rfl rfl ?_
    refine j_iload_1 19 dX7_tear_18 rfl ?_
    refine j_ialdw 20 1 _ (rn r) dX7_tear_19 rfl rfl rfl (by omega) rfl ?_
    refine j_if_ge 29 23 dX7_tear_20 (by first | with_reducible exact iI_rng _ | with_reducible exact bI_r _ | exact ⟨by omega, by omega⟩) (fun q20 => ?_) (fun q20 => ?_)
    · refine j_aload_0 30 dX7_tear_29 rfl ?_
      refine j_get 33 0 gf_X7_16 dX7_tear_30 rfl rfl ?_
      refine j_iload_1 34 dX7_tear_33 rfl ?_
      refine j_ialdw 35 1 _ (rn r) dX7_tear_34 rfl rfl rfl (by omega) rfl ?_
      refine j_istore_2 36 (lv' := [(0, _), (1, _), (2, _)]) dX7_tear_35 rfl ⟨rfl, rfl⟩ ?_
      refine j_aload_0 37 dX7_tear_36 rfl ?_
      refine j_get 40 0 gf_X7_16 dX7_tear_37 rfl rfl ?_
      refine j_iload_1 41 dX7_tear_40 rfl ?_
      refine j_iconst 42 dX7_tear_41 ?_
      refine j_iast 43 1 _ dX7_tear_42 rfl rfl rfl (by omega) ?_
      refine j_eqM (M' := [(m0, jO 7 [.int (iI 0), .int (iI ask), .int (iI fnd), .ref m1, .ref m2, .ref m3, .int (iI n), .int (iI wd), .ref m4, .ref m5, .int (iI mm), .ref m6, .ref m7, .int (iI um), .ref m8, .ref m9, .ref m10, .ref m11, .int (iI pd), .int (iI nd), .ref m12, .int (iI pal)]), (m3, jA E 4 (aI (setI rn r (-1))))]) (by rw [← aI_set]; rfl) ?_
      refine j_iload_2 44 dX7_tear_43 rfl ?_
      exact j_iret dX7_tear_44 rfl rfl ⟨rfl, rfl⟩
    · omega
  · omega

set_option maxRecDepth 100000 in
set_option maxHeartbeats 4000000 in
theorem c_X7_copy_bad (E : jD) (fnd : Int) (ask : Int) (wd : Int) (n : Int) (mm : Int) (um : Int) (nd : Int) (m0 : Nat) (m1 : Nat) (m2 : Nat) (m3 : Nat) (m4 : Nat) (m5 : Nat) (m6 : Nat) (m7 : Nat) (m8 : Nat) (m9 : Nat) (m10 : Nat) (m11 : Nat) (m12 : Nat) (thr : Int) (pd : Int) (pal : Int) (r i t j m : Int) (hr : jr r) (ht : jr t) (hb : r < 0 ∨ 4 ≤ r ∨ t < 0 ∨ 4 ≤ t) : MC E Y_X7_copy [.ref m0, .int (iI r), .int (iI i), .int (iI t), .int (iI j), .int (iI m)] [(m0, jO 7 [.int (iI thr), .int (iI ask), .int (iI fnd), .ref m1, .ref m2, .ref m3, .int (iI n), .int (iI wd), .ref m4, .ref m5, .int (iI mm), .ref m6, .ref m7, .int (iI um), .ref m8, .ref m9, .ref m10, .ref m11, .int (iI pd), .int (iI nd), .ref m12, .int (iI pal)])] (fun rr N0 => rr = some (.int (iI (-1))) ∧ N0 = [(m0, jO 7 [.int (iI 0), .int (iI ask), .int (iI fnd), .ref m1, .ref m2, .ref m3, .int (iI n), .int (iI wd), .ref m4, .ref m5, .int (iI mm), .ref m6, .ref m7, .int (iI um), .ref m8, .ref m9, .ref m10, .ref m11, .int (iI pd), .int (iI nd), .ref m12, .int (iI pal)])]) := by
  refine MC.of (by decide) rfl rfl ?_
  refine j_aload_0 1 dX7_copy_0 rfl ?_
  refine j_iconst 2 dX7_copy_1 ?_
  refine j_put 5 0 pf_X7_46 dX7_copy_2 rfl ⟨rfl, rfl, rfl⟩ ?_
  refine j_iload_1 6 dX7_copy_5 rfl ?_
  refine j_callSi 9 Y_X7_isRow [] [_] (c_X7_isRow E _ (by first | with_reducible assumption | with_reducible exact iI_rng _ | exact ⟨by omega, by omega⟩)) m_X7_isRow wml_X7_60 dX7_copy_6 rfl rfl rfl rfl rfl rfl rfl ?_
  refine j_bif_eq 19 12 dX7_copy_9 (fun q9 => ?_) (fun q9 => ?_)
  · refine j_iconst 20 dX7_copy_19 ?_
    exact j_iret dX7_copy_20 rfl rfl ⟨rfl, rfl⟩
  · refine j_iload_3 13 dX7_copy_12 rfl ?_
    refine j_callSi 16 Y_X7_isRow [] [_] (c_X7_isRow E _ (by first | with_reducible assumption | with_reducible exact iI_rng _ | exact ⟨by omega, by omega⟩)) m_X7_isRow wml_X7_60 dX7_copy_13 rfl rfl rfl rfl rfl rfl rfl ?_
    refine j_bif_ne 21 19 dX7_copy_16 (fun q16 => ?_) (fun q16 => ?_)
    · omega
    · refine j_iconst 20 dX7_copy_19 ?_
      exact j_iret dX7_copy_20 rfl rfl ⟨rfl, rfl⟩

set_option maxRecDepth 100000 in
set_option maxHeartbeats 4000000 in
theorem c_X7_copy_no (E : jD) (fnd : Int) (ask : Int) (wd : Int) (n : Int) (mm : Int) (um : Int) (nd : Int) (fm : Nat → Int) (m0 : Nat) (m1 : Nat) (m2 : Nat) (m3 : Nat) (m4 : Nat) (m5 : Nat) (m6 : Nat) (m7 : Nat) (m8 : Nat) (m9 : Nat) (m10 : Nat) (m11 : Nat) (m12 : Nat) (thr : Int) (pd : Int) (pal : Int) (rn : Nat → Int) (r t : Nat) (i j m c : Int) (hr4 : r < 4) (hN : -1 ≤ rn r ∧ rn r ≤ 48) (ht4 : t < 4) (hN2 : -1 ≤ rn t ∧ rn t ≤ 48) (hi : jr i) (hj : jr j) (hm : jr m) (hc : ((rn r < 0 ∨ rn t < 0) ∧ c = 1) ∨ (0 ≤ rn r ∧ 0 ≤ rn t ∧ (i < 0 ∨ m < 0 ∨ rn r - i < m ∨ j < 0 ∨ rn t - j < m) ∧ c = 2)) : MC E Y_X7_copy [.ref m0, .int (iI (r : Int)), .int (iI i), .int (iI (t : Int)), .int (iI j), .int (iI m)] [(m0, jO 7 [.int (iI thr), .int (iI ask), .int (iI fnd), .ref m1, .ref m2, .ref m3, .int (iI n), .int (iI wd), .ref m4, .ref m5, .int (iI mm), .ref m6, .ref m7, .int (iI um), .ref m8, .ref m9, .ref m10, .ref m11, .int (iI pd), .int (iI nd), .ref m12, .int (iI pal)]), (m1, jA E 5 (aI fm)), (m3, jA E 4 (aI rn))] (fun rr N0 => rr = some (.int (iI (rz c))) ∧ N0 = [(m0, jO 7 [.int (iI 0), .int (iI ask), .int (iI (rf c fnd)), .ref m1, .ref m2, .ref m3, .int (iI n), .int (iI wd), .ref m4, .ref m5, .int (iI mm), .ref m6, .ref m7, .int (iI um), .ref m8, .ref m9, .ref m10, .ref m11, .int (iI pd), .int (iI nd), .ref m12, .int (iI pal)]), (m1, jA E 5 (aI (rm c fm))), (m3, jA E 4 (aI rn))]) := by
  refine MC.of (by decide) rfl rfl ?_
  refine j_aload_0 1 dX7_copy_0 rfl ?_
  refine j_iconst 2 dX7_copy_1 ?_
  refine j_put 5 0 pf_X7_46 dX7_copy_2 rfl ⟨rfl, rfl, rfl⟩ ?_
  refine j_iload_1 6 dX7_copy_5 rfl ?_
  refine j_callSi 9 Y_X7_isRow [] [_] (c_X7_isRow E _ (by first | with_reducible assumption | with_reducible exact iI_rng _ | exact ⟨by omega, by omega⟩)) m_X7_isRow wml_X7_60 dX7_copy_6 rfl rfl rfl rfl rfl rfl rfl ?_
  refine j_bif_eq 19 12 dX7_copy_9 (fun q9 => ?_) (fun q9 => ?_)
  · omega
  · refine j_iload_3 13 dX7_copy_12 rfl ?_
    refine j_callSi 16 Y_X7_isRow [] [_] (c_X7_isRow E _ (by first | with_reducible assumption | with_reducible exact iI_rng _ | exact ⟨by omega, by omega⟩)) m_X7_isRow wml_X7_60 dX7_copy_13 rfl rfl rfl rfl rfl rfl rfl ?_
    refine j_bif_ne 21 19 dX7_copy_16 (fun q16 => ?_) (fun q16 => ?_)
    · refine j_aload_0 22 dX7_copy_21 rfl ?_
      refine j_get 25 0 gf_X7_16 dX7_copy_22 rfl rfl ?_
      refine j_iload_1 26 dX7_copy_25 rfl ?_
      refine j_ialdw 27 2 _ (rn r) dX7_copy_26 rfl rfl rfl (by omega) rfl ?_
      refine j_if_lt 39 30 dX7_copy_27 (by first | with_reducible exact iI_rng _ | with_reducible exact bI_r _ | exact ⟨by omega, by omega⟩) (fun q27 => ?_) (fun q27 => ?_)
      · refine j_aload_0 40 dX7_copy_39 rfl ?_
        refine j_iconst 41 dX7_copy_40 ?_
        refine j_callV 44 Y_X7_found [0, 1] [_] (c_X7_found E _ _ _ _ _ _ _ _ _ _ _ _ _ _ _ _ _ _ _ _ _ _ _ _ 1 (by decide)) m_X7_found wml_X7_64 dX7_copy_41 0 rfl rfl rfl rfl rfl rfl rfl rfl rfl (fun r N h => by obtain ⟨rfl, rfl⟩ := h; rfl) (fun r N h => ?_)
        obtain ⟨rfl, rfl⟩ := h
        obtain rfl : c = 1 := by omega
        exact j_iret dX7_copy_44 rfl rfl ⟨rfl, rfl⟩
      · refine j_aload_0 31 dX7_copy_30 rfl ?_
        refine j_get 34 0 gf_X7_16 dX7_copy_31 rfl rfl ?_
        refine j_iload_3 35 dX7_copy_34 rfl ?_
        refine j_ialdw 36 2 _ (rn t) dX7_copy_35 rfl rfl rfl (by omega) rfl ?_
        refine j_if_ge 45 39 dX7_copy_36 (by first | with_reducible exact iI_rng _ | with_reducible exact bI_r _ | exact ⟨by omega, by omega⟩) (fun q36 => ?_) (fun q36 => ?_)
        · refine j_aload_0 46 dX7_copy_45 rfl ?_
          refine j_iload_1 47 dX7_copy_46 rfl ?_
          refine j_iload_2 48 dX7_copy_47 rfl ?_
          refine j_iload 50 dX7_copy_48 rfl ?_
          refine j_callVi 53 Y_X7_isPart [0, 2] [_, _, _] (c_X7_isPart E _ _ _ _ _ _ _ _ _ _ _ _ _ _ _ _ _ _ _ _ _ _ _ _ r _ _ hr4 hN (by first | with_reducible assumption | with_reducible exact iI_rng _ | exact ⟨by omega, by omega⟩) (by first | with_reducible assumption | with_reducible exact iI_rng _ | exact ⟨by omega, by omega⟩)) m_X7_isPart wml_X7_75 dX7_copy_50 0 rfl rfl rfl rfl rfl rfl rfl rfl rfl rfl ?_
          refine j_bif_eq 68 56 dX7_copy_53 (fun q53 => ?_) (fun q53 => ?_)
          · refine j_aload_0 69 dX7_copy_68 rfl ?_
            refine j_iconst 70 dX7_copy_69 ?_
            refine j_callV 73 Y_X7_found [0, 1] [_] (c_X7_found E _ _ _ _ _ _ _ _ _ _ _ _ _ _ _ _ _ _ _ _ _ _ _ _ 2 (by decide)) m_X7_found wml_X7_64 dX7_copy_70 0 rfl rfl rfl rfl rfl rfl rfl rfl rfl (fun r N h => by obtain ⟨rfl, rfl⟩ := h; rfl) (fun r N h => ?_)
            obtain ⟨rfl, rfl⟩ := h
            obtain rfl : c = 2 := by omega
            exact j_iret dX7_copy_73 rfl rfl ⟨rfl, rfl⟩
          · refine j_aload_0 57 dX7_copy_56 rfl ?_
            refine j_iload_3 58 dX7_copy_57 rfl ?_
            refine j_iload 60 dX7_copy_58 rfl ?_
            refine j_iload 62 dX7_copy_60 rfl ?_
            refine j_callVi 65 Y_X7_isPart [0, 2] [_, _, _] (c_X7_isPart E _ _ _ _ _ _ _ _ _ _ _ _ _ _ _ _ _ _ _ _ _ _ _ _ t _ _ ht4 hN2 (by first | with_reducible assumption | with_reducible exact iI_rng _ | exact ⟨by omega, by omega⟩) (by first | with_reducible assumption | with_reducible exact iI_rng _ | exact ⟨by omega, by omega⟩)) m_X7_isPart wml_X7_75 dX7_copy_62 0 rfl rfl rfl rfl rfl rfl rfl rfl rfl rfl ?_
            refine j_bif_ne 74 68 dX7_copy_65 (fun q65 => ?_) (fun q65 => ?_)
            · omega
            · refine j_aload_0 69 dX7_copy_68 rfl ?_
              refine j_iconst 70 dX7_copy_69 ?_
              refine j_callV 73 Y_X7_found [0, 1] [_] (c_X7_found E _ _ _ _ _ _ _ _ _ _ _ _ _ _ _ _ _ _ _ _ _ _ _ _ 2 (by decide)) m_X7_found wml_X7_64 dX7_copy_70 0 rfl rfl rfl rfl rfl rfl rfl rfl rfl (fun r N h => by obtain ⟨rfl, rfl⟩ := h; rfl) (fun r N h => ?_)
              obtain ⟨rfl, rfl⟩ := h
              obtain rfl : c = 2 := by omega
              exact j_iret dX7_copy_73 rfl rfl ⟨rfl, rfl⟩
        · refine j_aload_0 40 dX7_copy_39 rfl ?_
          refine j_iconst 41 dX7_copy_40 ?_
          refine j_callV 44 Y_X7_found [0, 1] [_] (c_X7_found E _ _ _ _ _ _ _ _ _ _ _ _ _ _ _ _ _ _ _ _ _ _ _ _ 1 (by decide)) m_X7_found wml_X7_64 dX7_copy_41 0 rfl rfl rfl rfl rfl rfl rfl rfl rfl (fun r N h => by obtain ⟨rfl, rfl⟩ := h; rfl) (fun r N h => ?_)
          obtain ⟨rfl, rfl⟩ := h
          obtain rfl : c = 1 := by omega
          exact j_iret dX7_copy_44 rfl rfl ⟨rfl, rfl⟩
    · omega

/-- copied backward: the last k of m -/
def cbF (f : Nat → Int32) (a b m k : Nat) : Nat → Int32 := fun j => if b + (m - k) ≤ j ∧ j < b + m then f (a + (j - b)) else f j
theorem cbF_0 (f : Nat → Int32) (a b m : Nat) : cbF f a b m 0 = f := by
  funext j; unfold cbF; rw [if_neg (by omega)]
theorem cbF_s (f : Nat → Int32) (a b m k : Nat) (hk : k < m) (hab : a < b) : upd (cbF f a b m k) (b + (m - 1 - k)) (cbF f a b m k (a + (m - 1 - k))) = cbF f a b m (k + 1) := by
  have e : cbF f a b m k (a + (m - 1 - k)) = f (a + (m - 1 - k)) := by unfold cbF; rw [if_neg (by omega)]
  rw [e]
  funext j
  unfold upd cbF
  by_cases h : j = b + (m - 1 - k)
  · rw [if_pos h, if_pos (by omega), h]
    congr 1; omega
  · rw [if_neg h]
    by_cases h2 : b + (m - k) ≤ j ∧ j < b + m
    · rw [if_pos h2, if_pos (by omega)]
    · rw [if_neg h2, if_neg (by omega)]
theorem cbF_m (f : Nat → Int32) (a b m : Nat) : cbF f a b m m = cpF f f a b m := by
  funext j; unfold cbF cpF; rw [Nat.sub_self, Nat.add_zero]
/-- copied forward -/
theorem cfF_s (f : Nat → Int32) (a b k : Nat) (hab : b ≤ a) : upd (cpF f f a b k) (b + k) (cpF f f a b k (a + k)) = cpF f f a b (k + 1) := by
  have e : cpF f f a b k (a + k) = f (a + k) := by unfold cpF; rw [if_neg (by omega)]
  rw [e, cpF_s]

set_option maxRecDepth 100000 in
set_option maxHeartbeats 4000000 in
theorem lp7_copy_f (E : jD) (fnd : Int) (ask : Int) (wd : Int) (n : Int) (mm : Int) (um : Int) (nd : Int) (m0 : Nat) (m1 : Nat) (m2 : Nat) (m3 : Nat) (m4 : Nat) (m5 : Nat) (m6 : Nat) (m7 : Nat) (m8 : Nat) (m9 : Nat) (m10 : Nat) (m11 : Nat) (m12 : Nat) (pd : Int) (pal : Int) (rn : Nat → Int) (rw0 : Nat → Int32) (r t i j m a b : Nat) (ha : 48 * r + i = a) (hb : 48 * t + j = b) (ham : a + m ≤ 192) (hbm : b + m ≤ 192) (hab : b ≤ a) : ∀ (d : Nat) (k : Nat) (z9 : List (Nat × Value)), m - k < d → (k ≤ m) → (z9 = [] ∨ ∃ x, z9 = [(9, x)]) → J E Y_X7_copy (jZm E Y_X7_copy (fun rr N0 => rr = some (.int (iI ((m : Int)))) ∧ N0 = [(m0, jO 7 [.int (iI 0), .int (iI ask), .int (iI fnd), .ref m1, .ref m2, .ref m3, .int (iI n), .int (iI wd), .ref m4, .ref m5, .int (iI mm), .ref m6, .ref m7, .int (iI um), .ref m8, .ref m9, .ref m10, .ref m11, .int (iI pd), .int (iI nd), .ref m12, .int (iI pal)]), (m2, jA E 192 (cpF rw0 rw0 a b m)), (m3, jA E 4 (aI rn))])) 0 0 94 ([(0, .ref m0), (1, .int (iI (r : Int))), (2, .int (iI (i : Int))), (3, .int (iI (t : Int))), (4, .int (iI (j : Int))), (5, .int (iI (m : Int))), (6, .int (iI (a : Int))), (7, .int (iI (b : Int))), (8, .int (iI (k : Int)))] ++ z9) [] [(m0, jO 7 [.int (iI 0), .int (iI ask), .int (iI fnd), .ref m1, .ref m2, .ref m3, .int (iI n), .int (iI wd), .ref m4, .ref m5, .int (iI mm), .ref m6, .ref m7, .int (iI um), .ref m8, .ref m9, .ref m10, .ref m11, .int (iI pd), .int (iI nd), .ref m12, .int (iI pal)]), (m2, jA E 192 (cpF rw0 rw0 a b k)), (m3, jA E 4 (aI rn))] := by
  intro d
  induction d with
  | zero => intros; omega
  | succ d ih =>
    intro k z9 hd hk hz9
    refine j_take 9 ?_
    refine j_eqL (lv' := [(0, .ref m0), (1, .int (iI (r : Int))), (2, .int (iI (i : Int))), (3, .int (iI (t : Int))), (4, .int (iI (j : Int))), (5, .int (iI (m : Int))), (6, .int (iI (a : Int))), (7, .int (iI (b : Int))), (8, .int (iI (k : Int)))]) (by rcases hz9 with rfl | ⟨x, rfl⟩ <;> rfl) ?_
    refine j_iload 96 dX7_copy_94 rfl ?_
    refine j_iload 98 dX7_copy_96 rfl ?_
    refine j_icmp_ge 148 101 dX7_copy_98 (by first | with_reducible exact iI_rng _ | with_reducible exact bI_r _ | exact ⟨by omega, by omega⟩) (by first | with_reducible exact iI_rng _ | with_reducible exact bI_r _ | exact ⟨by omega, by omega⟩) (fun q98 => ?_) (fun q98 => ?_)
    · have e0 : k = m := by omega
      subst e0
      refine j_iload 150 dX7_copy_148 rfl ?_
      exact j_iret dX7_copy_150 rfl rfl ⟨rfl, rfl⟩
    · refine j_iload 103 dX7_copy_101 rfl ?_
      refine j_iload 105 dX7_copy_103 rfl ?_
      refine j_icmp_le 118 108 dX7_copy_105 (by first | with_reducible exact iI_rng _ | with_reducible exact bI_r _ | exact ⟨by omega, by omega⟩) (by first | with_reducible exact iI_rng _ | with_reducible exact bI_r _ | exact ⟨by omega, by omega⟩) (fun q105 => ?_) (fun q105 => ?_)
      · refine j_iload 120 dX7_copy_118 rfl ?_
        refine j_top ((k : Nat) : Int) (congrArg iI (by omega)) ?_
        refine j_istore 122 (lv' := [(0, _), (1, _), (2, _), (3, _), (4, _), (5, _), (6, _), (7, _), (8, _), (9, _)]) dX7_copy_120 rfl ⟨rfl, rfl⟩ ?_
        refine j_aload_0 123 dX7_copy_122 rfl ?_
        refine j_get 126 0 gf_X7_13 dX7_copy_123 rfl rfl ?_
        refine j_iload 128 dX7_copy_126 rfl ?_
        refine j_iload 130 dX7_copy_128 rfl ?_
        refine j_iadd 131 dX7_copy_130 ?_
        refine j_aload_0 132 dX7_copy_131 rfl ?_
        refine j_get 135 0 gf_X7_13 dX7_copy_132 rfl rfl ?_
        refine j_iload 137 dX7_copy_135 rfl ?_
        refine j_iload 139 dX7_copy_137 rfl ?_
        refine j_iadd 140 dX7_copy_139 ?_
        refine j_ialdx 141 1 (a + k) dX7_copy_140 rfl rfl (by omega) (by omega) ?_
        refine j_iast 142 1 (b + k) dX7_copy_141 rfl rfl (by omega) (by omega) ?_
        refine j_eqM (M' := [(m0, jO 7 [.int (iI 0), .int (iI ask), .int (iI fnd), .ref m1, .ref m2, .ref m3, .int (iI n), .int (iI wd), .ref m4, .ref m5, .int (iI mm), .ref m6, .ref m7, .int (iI um), .ref m8, .ref m9, .ref m10, .ref m11, .int (iI pd), .int (iI nd), .ref m12, .int (iI pal)]), (m2, jA E 192 (cpF rw0 rw0 a b (k + 1))), (m3, jA E 4 (aI rn))]) (by rw [← cfF_s rw0 a b k hab]; rfl) ?_
        refine j_iinc 145 (lv' := [(0, _), (1, _), (2, _), (3, _), (4, _), (5, _), (6, _), (7, _), (8, _), (9, _)]) dX7_copy_142 rfl rfl ⟨rfl, rfl⟩ ?_
        refine j_goto 94 dX7_copy_145 ?_
        exact ih (k + 1) [(9, _)] (by omega) (by omega) (Or.inr ⟨_, rfl⟩)
      · omega

set_option maxRecDepth 100000 in
set_option maxHeartbeats 4000000 in
theorem lp7_copy_b (E : jD) (fnd : Int) (ask : Int) (wd : Int) (n : Int) (mm : Int) (um : Int) (nd : Int) (m0 : Nat) (m1 : Nat) (m2 : Nat) (m3 : Nat) (m4 : Nat) (m5 : Nat) (m6 : Nat) (m7 : Nat) (m8 : Nat) (m9 : Nat) (m10 : Nat) (m11 : Nat) (m12 : Nat) (pd : Int) (pal : Int) (rn : Nat → Int) (rw0 : Nat → Int32) (r t i j m a b : Nat) (ha : 48 * r + i = a) (hb : 48 * t + j = b) (ham : a + m ≤ 192) (hbm : b + m ≤ 192) (hab : a < b) : ∀ (d : Nat) (k : Nat) (z9 : List (Nat × Value)), m - k < d → (k ≤ m) → (z9 = [] ∨ ∃ x, z9 = [(9, x)]) → J E Y_X7_copy (jZm E Y_X7_copy (fun rr N0 => rr = some (.int (iI ((m : Int)))) ∧ N0 = [(m0, jO 7 [.int (iI 0), .int (iI ask), .int (iI fnd), .ref m1, .ref m2, .ref m3, .int (iI n), .int (iI wd), .ref m4, .ref m5, .int (iI mm), .ref m6, .ref m7, .int (iI um), .ref m8, .ref m9, .ref m10, .ref m11, .int (iI pd), .int (iI nd), .ref m12, .int (iI pal)]), (m2, jA E 192 (cpF rw0 rw0 a b m)), (m3, jA E 4 (aI rn))])) 0 0 94 ([(0, .ref m0), (1, .int (iI (r : Int))), (2, .int (iI (i : Int))), (3, .int (iI (t : Int))), (4, .int (iI (j : Int))), (5, .int (iI (m : Int))), (6, .int (iI (a : Int))), (7, .int (iI (b : Int))), (8, .int (iI (k : Int)))] ++ z9) [] [(m0, jO 7 [.int (iI 0), .int (iI ask), .int (iI fnd), .ref m1, .ref m2, .ref m3, .int (iI n), .int (iI wd), .ref m4, .ref m5, .int (iI mm), .ref m6, .ref m7, .int (iI um), .ref m8, .ref m9, .ref m10, .ref m11, .int (iI pd), .int (iI nd), .ref m12, .int (iI pal)]), (m2, jA E 192 (cbF rw0 a b m k)), (m3, jA E 4 (aI rn))] := by
  intro d
  induction d with
  | zero => intros; omega
  | succ d ih =>
    intro k z9 hd hk hz9
    refine j_take 9 ?_
    refine j_eqL (lv' := [(0, .ref m0), (1, .int (iI (r : Int))), (2, .int (iI (i : Int))), (3, .int (iI (t : Int))), (4, .int (iI (j : Int))), (5, .int (iI (m : Int))), (6, .int (iI (a : Int))), (7, .int (iI (b : Int))), (8, .int (iI (k : Int)))]) (by rcases hz9 with rfl | ⟨x, rfl⟩ <;> rfl) ?_
    refine j_iload 96 dX7_copy_94 rfl ?_
    refine j_iload 98 dX7_copy_96 rfl ?_
    refine j_icmp_ge 148 101 dX7_copy_98 (by first | with_reducible exact iI_rng _ | with_reducible exact bI_r _ | exact ⟨by omega, by omega⟩) (by first | with_reducible exact iI_rng _ | with_reducible exact bI_r _ | exact ⟨by omega, by omega⟩) (fun q98 => ?_) (fun q98 => ?_)
    · have e0 : k = m := by omega
      subst e0
      rw [cbF_m]
      refine j_iload 150 dX7_copy_148 rfl ?_
      exact j_iret dX7_copy_150 rfl rfl ⟨rfl, rfl⟩
    · refine j_iload 103 dX7_copy_101 rfl ?_
      refine j_iload 105 dX7_copy_103 rfl ?_
      refine j_icmp_le 118 108 dX7_copy_105 (by first | with_reducible exact iI_rng _ | with_reducible exact bI_r _ | exact ⟨by omega, by omega⟩) (by first | with_reducible exact iI_rng _ | with_reducible exact bI_r _ | exact ⟨by omega, by omega⟩) (fun q105 => ?_) (fun q105 => ?_)
      · omega
      · refine j_iload 110 dX7_copy_108 rfl ?_
        refine j_iconst 111 dX7_copy_110 ?_
        refine j_isub 112 dX7_copy_111 ?_
        refine j_iload 114 dX7_copy_112 rfl ?_
        refine j_isub 115 dX7_copy_114 ?_
        refine j_goto 120 dX7_copy_115 ?_
        refine j_top (((m - 1 - k) : Nat) : Int) (congrArg iI (by omega)) ?_
        refine j_istore 122 (lv' := [(0, _), (1, _), (2, _), (3, _), (4, _), (5, _), (6, _), (7, _), (8, _), (9, _)]) dX7_copy_120 rfl ⟨rfl, rfl⟩ ?_
        refine j_aload_0 123 dX7_copy_122 rfl ?_
        refine j_get 126 0 gf_X7_13 dX7_copy_123 rfl rfl ?_
        refine j_iload 128 dX7_copy_126 rfl ?_
        refine j_iload 130 dX7_copy_128 rfl ?_
        refine j_iadd 131 dX7_copy_130 ?_
        refine j_aload_0 132 dX7_copy_131 rfl ?_
        refine j_get 135 0 gf_X7_13 dX7_copy_132 rfl rfl ?_
        refine j_iload 137 dX7_copy_135 rfl ?_
        refine j_iload 139 dX7_copy_137 rfl ?_
        refine j_iadd 140 dX7_copy_139 ?_
        refine j_ialdx 141 1 (a + (m - 1 - k)) dX7_copy_140 rfl rfl (by omega) (by omega) ?_
        refine j_iast 142 1 (b + (m - 1 - k)) dX7_copy_141 rfl rfl (by omega) (by omega) ?_
        refine j_eqM (M' := [(m0, jO 7 [.int (iI 0), .int (iI ask), .int (iI fnd), .ref m1, .ref m2, .ref m3, .int (iI n), .int (iI wd), .ref m4, .ref m5, .int (iI mm), .ref m6, .ref m7, .int (iI um), .ref m8, .ref m9, .ref m10, .ref m11, .int (iI pd), .int (iI nd), .ref m12, .int (iI pal)]), (m2, jA E 192 (cbF rw0 a b m (k + 1))), (m3, jA E 4 (aI rn))]) (by rw [← cbF_s rw0 a b m k (by omega) hab]; rfl) ?_
        refine j_iinc 145 (lv' := [(0, _), (1, _), (2, _), (3, _), (4, _), (5, _), (6, _), (7, _), (8, _), (9, _)]) dX7_copy_142 rfl rfl ⟨rfl, rfl⟩ ?_
        refine j_goto 94 dX7_copy_145 ?_
        exact ih (k + 1) [(9, _)] (by omega) (by omega) (Or.inr ⟨_, rfl⟩)

set_option maxRecDepth 100000 in
set_option maxHeartbeats 4000000 in
theorem c_X7_copy_ok (E : jD) (fnd : Int) (ask : Int) (wd : Int) (n : Int) (mm : Int) (um : Int) (nd : Int) (m0 : Nat) (m1 : Nat) (m2 : Nat) (m3 : Nat) (m4 : Nat) (m5 : Nat) (m6 : Nat) (m7 : Nat) (m8 : Nat) (m9 : Nat) (m10 : Nat) (m11 : Nat) (m12 : Nat) (thr : Int) (pd : Int) (pal : Int) (rn : Nat → Int) (rw0 : Nat → Int32) (r t i j m : Nat) (hr4 : r < 4) (hN : -1 ≤ rn r ∧ rn r ≤ 48) (ht4 : t < 4) (hN2 : -1 ≤ rn t ∧ rn t ≤ 48) (hA1 : (i : Int) + m ≤ rn r) (hA2 : (j : Int) + m ≤ rn t) : MC E Y_X7_copy [.ref m0, .int (iI (r : Int)), .int (iI (i : Int)), .int (iI (t : Int)), .int (iI (j : Int)), .int (iI (m : Int))] [(m0, jO 7 [.int (iI thr), .int (iI ask), .int (iI fnd), .ref m1, .ref m2, .ref m3, .int (iI n), .int (iI wd), .ref m4, .ref m5, .int (iI mm), .ref m6, .ref m7, .int (iI um), .ref m8, .ref m9, .ref m10, .ref m11, .int (iI pd), .int (iI nd), .ref m12, .int (iI pal)]), (m2, jA E 192 rw0), (m3, jA E 4 (aI rn))] (fun rr N0 => rr = some (.int (iI ((m : Int)))) ∧ N0 = [(m0, jO 7 [.int (iI 0), .int (iI ask), .int (iI fnd), .ref m1, .ref m2, .ref m3, .int (iI n), .int (iI wd), .ref m4, .ref m5, .int (iI mm), .ref m6, .ref m7, .int (iI um), .ref m8, .ref m9, .ref m10, .ref m11, .int (iI pd), .int (iI nd), .ref m12, .int (iI pal)]), (m2, jA E 192 (cpF rw0 rw0 (48 * r + i) (48 * t + j) m)), (m3, jA E 4 (aI rn))]) := by
  refine MC.of (by decide) rfl rfl ?_
  refine j_aload_0 1 dX7_copy_0 rfl ?_
  refine j_iconst 2 dX7_copy_1 ?_
  refine j_put 5 0 pf_X7_46 dX7_copy_2 rfl ⟨rfl, rfl, rfl⟩ ?_
  refine j_iload_1 6 dX7_copy_5 rfl ?_
  refine j_callSi 9 Y_X7_isRow [] [_] (c_X7_isRow E _ (by first | with_reducible assumption | with_reducible exact iI_rng _ | exact ⟨by omega, by omega⟩)) m_X7_isRow wml_X7_60 dX7_copy_6 rfl rfl rfl rfl rfl rfl rfl ?_
  refine j_bif_eq 19 12 dX7_copy_9 (fun q9 => ?_) (fun q9 => ?_)
  · omega
  · refine j_iload_3 13 dX7_copy_12 rfl ?_
    refine j_callSi 16 Y_X7_isRow [] [_] (c_X7_isRow E _ (by first | with_reducible assumption | with_reducible exact iI_rng _ | exact ⟨by omega, by omega⟩)) m_X7_isRow wml_X7_60 dX7_copy_13 rfl rfl rfl rfl rfl rfl rfl ?_
    refine j_bif_ne 21 19 dX7_copy_16 (fun q16 => ?_) (fun q16 => ?_)
    · refine j_aload_0 22 dX7_copy_21 rfl ?_
      refine j_get 25 0 gf_X7_16 dX7_copy_22 rfl rfl ?_
      refine j_iload_1 26 dX7_copy_25 rfl ?_
      refine j_ialdw 27 2 _ (rn r) dX7_copy_26 rfl rfl rfl (by omega) rfl ?_
      refine j_if_lt 39 30 dX7_copy_27 (by first | with_reducible exact iI_rng _ | with_reducible exact bI_r _ | exact ⟨by omega, by omega⟩) (fun q27 => ?_) (fun q27 => ?_)
      · omega
      · refine j_aload_0 31 dX7_copy_30 rfl ?_
        refine j_get 34 0 gf_X7_16 dX7_copy_31 rfl rfl ?_
        refine j_iload_3 35 dX7_copy_34 rfl ?_
        refine j_ialdw 36 2 _ (rn t) dX7_copy_35 rfl rfl rfl (by omega) rfl ?_
        refine j_if_ge 45 39 dX7_copy_36 (by first | with_reducible exact iI_rng _ | with_reducible exact bI_r _ | exact ⟨by omega, by omega⟩) (fun q36 => ?_) (fun q36 => ?_)
        · refine j_aload_0 46 dX7_copy_45 rfl ?_
          refine j_iload_1 47 dX7_copy_46 rfl ?_
          refine j_iload_2 48 dX7_copy_47 rfl ?_
          refine j_iload 50 dX7_copy_48 rfl ?_
          refine j_callVi 53 Y_X7_isPart [0, 2] [_, _, _] (c_X7_isPart E _ _ _ _ _ _ _ _ _ _ _ _ _ _ _ _ _ _ _ _ _ _ _ _ r _ _ hr4 hN (by first | with_reducible assumption | with_reducible exact iI_rng _ | exact ⟨by omega, by omega⟩) (by first | with_reducible assumption | with_reducible exact iI_rng _ | exact ⟨by omega, by omega⟩)) m_X7_isPart wml_X7_75 dX7_copy_50 0 rfl rfl rfl rfl rfl rfl rfl rfl rfl rfl ?_
          refine j_bif_eq 68 56 dX7_copy_53 (fun q53 => ?_) (fun q53 => ?_)
          · omega
          · refine j_aload_0 57 dX7_copy_56 rfl ?_
            refine j_iload_3 58 dX7_copy_57 rfl ?_
            refine j_iload 60 dX7_copy_58 rfl ?_
            refine j_iload 62 dX7_copy_60 rfl ?_
            refine j_callVi 65 Y_X7_isPart [0, 2] [_, _, _] (c_X7_isPart E _ _ _ _ _ _ _ _ _ _ _ _ _ _ _ _ _ _ _ _ _ _ _ _ t _ _ ht4 hN2 (by first | with_reducible assumption | with_reducible exact iI_rng _ | exact ⟨by omega, by omega⟩) (by first | with_reducible assumption | with_reducible exact iI_rng _ | exact ⟨by omega, by omega⟩)) m_X7_isPart wml_X7_75 dX7_copy_62 0 rfl rfl rfl rfl rfl rfl rfl rfl rfl rfl ?_
            refine j_bif_ne 74 68 dX7_copy_65 (fun q65 => ?_) (fun q65 => ?_)
            · refine j_bipush 76 dX7_copy_74 (by decide +kernel) ?_
              refine j_iload_1 77 dX7_copy_76 rfl ?_
              refine j_imul 78 dX7_copy_77 ?_
              refine j_iload_2 79 dX7_copy_78 rfl ?_
              refine j_iadd 80 dX7_copy_79 ?_
              refine j_top ((48 * r + i : Nat) : Int) (congrArg iI (by omega)) ?_
              refine j_istore 82 (lv' := [(0, _), (1, _), (2, _), (3, _), (4, _), (5, _), (6, _)]) dX7_copy_80 rfl ⟨rfl, rfl⟩ ?_
              refine j_bipush 84 dX7_copy_82 (by decide +kernel) ?_
              refine j_iload_3 85 dX7_copy_84 rfl ?_
              refine j_imul 86 dX7_copy_85 ?_
              refine j_iload 88 dX7_copy_86 rfl ?_
              refine j_iadd 89 dX7_copy_88 ?_
              refine j_top ((48 * t + j : Nat) : Int) (congrArg iI (by omega)) ?_
              refine j_istore 91 (lv' := [(0, _), (1, _), (2, _), (3, _), (4, _), (5, _), (6, _), (7, _)]) dX7_copy_89 rfl ⟨rfl, rfl⟩ ?_
              refine j_iconst 92 dX7_copy_91 ?_
              refine j_istore 94 (lv' := [(0, _), (1, _), (2, _), (3, _), (4, _), (5, _), (6, _), (7, _), (8, _)]) dX7_copy_92 rfl ⟨rfl, rfl⟩ ?_
              rcases Nat.lt_or_ge (48 * r + i) (48 * t + j) with hab | hab
              · have h := lp7_copy_b E fnd ask wd n mm um nd m0 m1 m2 m3 m4 m5 m6 m7 m8 m9 m10 m11 m12 pd pal rn rw0 r t i j m (48 * r + i) (48 * t + j) rfl rfl (by omega) (by omega) hab (m + 1) 0 [] (by omega) (by omega) (Or.inl rfl)
                rw [cbF_0] at h
                exact h
              · have h := lp7_copy_f E fnd ask wd n mm um nd m0 m1 m2 m3 m4 m5 m6 m7 m8 m9 m10 m11 m12 pd pal rn rw0 r t i j m (48 * r + i) (48 * t + j) rfl rfl (by omega) (by omega) hab (m + 1) 0 [] (by omega) (by omega) (Or.inl rfl)
                rw [cpF_0] at h
                exact h
            · omega
        · omega
    · omega
