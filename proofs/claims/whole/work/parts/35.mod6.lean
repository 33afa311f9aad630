set_option maxRecDepth 100000 in
set_option maxHeartbeats 4000000 in
theorem c_X7_item_ok (E : jD) (fnd : Int) (ask : Int) (wd : Int) (mm : Int) (um : Int) (nd : Int) (m0 : Nat) (m1 : Nat) (m2 : Nat) (m3 : Nat) (m4 : Nat) (m5 : Nat) (m6 : Nat) (m7 : Nat) (m8 : Nat) (m9 : Nat) (m10 : Nat) (m11 : Nat) (m12 : Nat) (thr : Int) (pd : Int) (pal : Int) (it : Nat → Int32) (n : Nat) (i : Nat) (hn : 0 ≤ (n : Int) ∧ (n : Int) ≤ 48) (hi : i < n) : MC E Y_X7_item [.ref m0, .int (iI (i : Int))] [(m0, jO 7 [.int (iI thr), .int (iI ask), .int (iI fnd), .ref m1, .ref m2, .ref m3, .int (iI (n : Int)), .int (iI wd), .ref m4, .ref m5, .int (iI mm), .ref m6, .ref m7, .int (iI um), .ref m8, .ref m9, .ref m10, .ref m11, .int (iI pd), .int (iI nd), .ref m12, .int (iI pal)]), (m4, jA E 48 it)] (fun rr N0 => rr = some (.int (iI (1))) ∧ N0 = [(m0, jO 7 [.int (iI 0), .int (iI (it i).toInt), .int (iI fnd), .ref m1, .ref m2, .ref m3, .int (iI (n : Int)), .int (iI wd), .ref m4, .ref m5, .int (iI mm), .ref m6, .ref m7, .int (iI um), .ref m8, .ref m9, .ref m10, .ref m11, .int (iI pd), .int (iI nd), .ref m12, .int (iI pal)]), (m4, jA E 48 it)]) := by
  refine MC.of (by decide) rfl rfl ?_
  refine j_aload_0 1 dX7_item_0 rfl ?_
  refine j_iconst 2 dX7_item_1 ?_
  refine j_put 5 0 pf_X7_46 dX7_item_2 rfl ⟨rfl, rfl, rfl⟩ ?_
  refine j_aload_0 6 dX7_item_5 rfl ?_
  refine j_iload_1 7 dX7_item_6 rfl ?_
  refine j_iload_1 8 dX7_item_7 rfl ?_
  refine j_callVi 11 Y_X7_againstRun [0] [_, _] (c_X7_againstRun_ok E _ _ _ _ _ _ _ _ _ _ _ _ _ _ _ _ _ _ _ _ _ _ _ _ _ hn (by omega) (by omega)) m_X7_againstRun wml_X7_113 dX7_item_8 0 rfl rfl rfl rfl rfl rfl rfl rfl rfl rfl ?_
  refine j_istore_2 12 (lv' := [(0, _), (1, _), (2, _)]) dX7_item_11 rfl ⟨rfl, rfl⟩ ?_
  refine j_iload_2 13 dX7_item_12 rfl ?_
  refine j_if_eq 20 16 dX7_item_13 (by first | with_reducible exact iI_rng _ | with_reducible exact bI_r _ | exact ⟨by omega, by omega⟩) (fun q13 => ?_) (fun q13 => ?_)
  · refine j_aload_0 21 dX7_item_20 rfl ?_
    refine j_iconst 22 dX7_item_21 ?_
    refine j_aload_0 23 dX7_item_22 rfl ?_
    refine j_get 26 0 gf_X7_19 dX7_item_23 rfl rfl ?_
    refine j_iload_1 27 dX7_item_26 rfl ?_
    refine j_iald 28 1 _ dX7_item_27 rfl rfl rfl (by omega) ?_
    refine j_callV 31 Y_X7_tells [0] [_, _] (c_X7_tells E _ _ _ _ _ _ _ _ _ _ _ _ _ _ _ _ _ _ _ _ _ _ _ _ _) m_X7_tells wml_X7_72 dX7_item_28 0 rfl rfl rfl rfl rfl rfl rfl rfl rfl (fun r N h => by obtain ⟨rfl, rfl⟩ := h; rfl) (fun r N h => ?_)
    obtain ⟨rfl, rfl⟩ := h
    exact j_iret dX7_item_31 rfl rfl ⟨rfl, rfl⟩
  · omega

set_option maxRecDepth 100000 in
set_option maxHeartbeats 4000000 in
theorem c_X7_left_ok (E : jD) (fnd : Int) (ask : Int) (wd : Int) (mm : Int) (um : Int) (nd : Int) (m0 : Nat) (m1 : Nat) (m2 : Nat) (m3 : Nat) (m4 : Nat) (m5 : Nat) (m6 : Nat) (m7 : Nat) (m8 : Nat) (m9 : Nat) (m10 : Nat) (m11 : Nat) (m12 : Nat) (thr : Int) (pd : Int) (pal : Int) (it : Nat → Int32) (n : Nat) (i : Nat) (hn : 0 ≤ (n : Int) ∧ (n : Int) ≤ 48) (hi : i < n) : MC E Y_X7_left [.ref m0, .int (iI (i : Int))] [(m0, jO 7 [.int (iI thr), .int (iI ask), .int (iI fnd), .ref m1, .ref m2, .ref m3, .int (iI (n : Int)), .int (iI wd), .ref m4, .ref m5, .int (iI mm), .ref m6, .ref m7, .int (iI um), .ref m8, .ref m9, .ref m10, .ref m11, .int (iI pd), .int (iI nd), .ref m12, .int (iI pal)]), (m4, jA E 48 it)] (fun rr N0 => rr = some (.int (iI ((if lfE (tI it) i < 0 then -9 else lfE (tI it) i)))) ∧ N0 = [(m0, jO 7 [.int (iI 0), .int (iI ask), .int (iI fnd), .ref m1, .ref m2, .ref m3, .int (iI (n : Int)), .int (iI wd), .ref m4, .ref m5, .int (iI mm), .ref m6, .ref m7, .int (iI um), .ref m8, .ref m9, .ref m10, .ref m11, .int (iI pd), .int (iI nd), .ref m12, .int (iI pal)]), (m4, jA E 48 it)]) := by
  refine MC.of (by decide) rfl rfl ?_
  have hl1 := lfE_in (tI it) i
  refine j_aload_0 1 dX7_left_0 rfl ?_
  refine j_iconst 2 dX7_left_1 ?_
  refine j_put 5 0 pf_X7_46 dX7_left_2 rfl ⟨rfl, rfl, rfl⟩ ?_
  refine j_aload_0 6 dX7_left_5 rfl ?_
  refine j_iload_1 7 dX7_left_6 rfl ?_
  refine j_iload_1 8 dX7_left_7 rfl ?_
  refine j_callVi 11 Y_X7_againstRun [0] [_, _] (c_X7_againstRun_ok E _ _ _ _ _ _ _ _ _ _ _ _ _ _ _ _ _ _ _ _ _ _ _ _ _ hn (by omega) (by omega)) m_X7_againstRun wml_X7_113 dX7_left_8 0 rfl rfl rfl rfl rfl rfl rfl rfl rfl rfl ?_
  refine j_istore_2 12 (lv' := [(0, _), (1, _), (2, _)]) dX7_left_11 rfl ⟨rfl, rfl⟩ ?_
  refine j_iload_2 13 dX7_left_12 rfl ?_
  refine j_if_eq 18 16 dX7_left_13 (by first | with_reducible exact iI_rng _ | with_reducible exact bI_r _ | exact ⟨by omega, by omega⟩) (fun q13 => ?_) (fun q13 => ?_)
  · refine j_aload_0 19 dX7_left_18 rfl ?_
    refine j_iload_1 20 dX7_left_19 rfl ?_
    refine j_callVi 23 Y_X7_leftOf [0, 1] [_] (c_X7_leftOf E _ _ _ _ _ _ _ _ _ _ _ _ _ _ _ _ _ _ _ _ _ _ _ _ _ (by omega)) m_X7_leftOf wml_X7_119 dX7_left_20 0 rfl rfl rfl rfl rfl rfl rfl rfl rfl rfl ?_
    refine j_istore_3 24 (lv' := [(0, _), (1, _), (2, _), (3, _)]) dX7_left_23 rfl ⟨rfl, rfl⟩ ?_
    refine j_iload_3 25 dX7_left_24 rfl ?_
    refine j_if_ge 33 28 dX7_left_25 (by first | with_reducible exact iI_rng _ | with_reducible exact bI_r _ | exact ⟨by omega, by omega⟩) (fun q25 => ?_) (fun q25 => ?_)
    · refine j_iload_3 34 dX7_left_33 rfl ?_
      exact j_iret dX7_left_34 rfl rfl ⟨congrArg (fun z => some (Value.int (iI z))) (by first | exact (if_pos (by omega)).symm | exact (if_neg (by omega)).symm), rfl⟩
    · refine j_bipush 30 dX7_left_28 (by decide +kernel) ?_
      refine j_goto 34 dX7_left_30 ?_
      exact j_iret dX7_left_34 rfl rfl ⟨congrArg (fun z => some (Value.int (iI z))) (by first | exact (if_pos (by omega)).symm | exact (if_neg (by omega)).symm), rfl⟩
  · omega

set_option maxRecDepth 100000 in
set_option maxHeartbeats 4000000 in
theorem c_X7_right_ok (E : jD) (fnd : Int) (ask : Int) (wd : Int) (mm : Int) (um : Int) (nd : Int) (m0 : Nat) (m1 : Nat) (m2 : Nat) (m3 : Nat) (m4 : Nat) (m5 : Nat) (m6 : Nat) (m7 : Nat) (m8 : Nat) (m9 : Nat) (m10 : Nat) (m11 : Nat) (m12 : Nat) (thr : Int) (pd : Int) (pal : Int) (it : Nat → Int32) (n : Nat) (i : Nat) (hn : 0 ≤ (n : Int) ∧ (n : Int) ≤ 48) (hi : i < n) : MC E Y_X7_right [.ref m0, .int (iI (i : Int))] [(m0, jO 7 [.int (iI thr), .int (iI ask), .int (iI fnd), .ref m1, .ref m2, .ref m3, .int (iI (n : Int)), .int (iI wd), .ref m4, .ref m5, .int (iI mm), .ref m6, .ref m7, .int (iI um), .ref m8, .ref m9, .ref m10, .ref m11, .int (iI pd), .int (iI nd), .ref m12, .int (iI pal)]), (m4, jA E 48 it)] (fun rr N0 => rr = some (.int (iI ((if n ≤ rtE (tI it) n i then -9 else (rtE (tI it) n i : Int))))) ∧ N0 = [(m0, jO 7 [.int (iI 0), .int (iI ask), .int (iI fnd), .ref m1, .ref m2, .ref m3, .int (iI (n : Int)), .int (iI wd), .ref m4, .ref m5, .int (iI mm), .ref m6, .ref m7, .int (iI um), .ref m8, .ref m9, .ref m10, .ref m11, .int (iI pd), .int (iI nd), .ref m12, .int (iI pal)]), (m4, jA E 48 it)]) := by
  refine MC.of (by decide) rfl rfl ?_
  have hl1 := rtE_in (tI it) hi
  refine j_aload_0 1 dX7_right_0 rfl ?_
  refine j_iconst 2 dX7_right_1 ?_
  refine j_put 5 0 pf_X7_46 dX7_right_2 rfl ⟨rfl, rfl, rfl⟩ ?_
  refine j_aload_0 6 dX7_right_5 rfl ?_
  refine j_iload_1 7 dX7_right_6 rfl ?_
  refine j_iload_1 8 dX7_right_7 rfl ?_
  refine j_callVi 11 Y_X7_againstRun [0] [_, _] (c_X7_againstRun_ok E _ _ _ _ _ _ _ _ _ _ _ _ _ _ _ _ _ _ _ _ _ _ _ _ _ hn (by omega) (by omega)) m_X7_againstRun wml_X7_113 dX7_right_8 0 rfl rfl rfl rfl rfl rfl rfl rfl rfl rfl ?_
  refine j_istore_2 12 (lv' := [(0, _), (1, _), (2, _)]) dX7_right_11 rfl ⟨rfl, rfl⟩ ?_
  refine j_iload_2 13 dX7_right_12 rfl ?_
  refine j_if_eq 18 16 dX7_right_13 (by first | with_reducible exact iI_rng _ | with_reducible exact bI_r _ | exact ⟨by omega, by omega⟩) (fun q13 => ?_) (fun q13 => ?_)
  · refine j_aload_0 19 dX7_right_18 rfl ?_
    refine j_iload_1 20 dX7_right_19 rfl ?_
    refine j_callVi 23 Y_X7_rightOf [0, 1] [_] (c_X7_rightOf E _ _ _ _ _ _ _ _ _ _ _ _ _ _ _ _ _ _ _ _ _ _ _ _ _ (by omega) hi) m_X7_rightOf wml_X7_122 dX7_right_20 0 rfl rfl rfl rfl rfl rfl rfl rfl rfl rfl ?_
    refine j_istore_3 24 (lv' := [(0, _), (1, _), (2, _), (3, _)]) dX7_right_23 rfl ⟨rfl, rfl⟩ ?_
    refine j_iload_3 25 dX7_right_24 rfl ?_
    refine j_aload_0 26 dX7_right_25 rfl ?_
    refine j_get 29 0 gf_X7_81 dX7_right_26 rfl rfl ?_
    refine j_icmp_ne 37 32 dX7_right_29 (by first | with_reducible exact iI_rng _ | with_reducible exact bI_r _ | exact ⟨by omega, by omega⟩) (by first | with_reducible exact iI_rng _ | with_reducible exact bI_r _ | exact ⟨by omega, by omega⟩) (fun q29 => ?_) (fun q29 => ?_)
    · refine j_iload_3 38 dX7_right_37 rfl ?_
      exact j_iret dX7_right_38 rfl rfl ⟨congrArg (fun z => some (Value.int (iI z))) (by first | exact (if_pos (by omega)).symm | exact (if_neg (by omega)).symm), rfl⟩
    · refine j_bipush 34 dX7_right_32 (by decide +kernel) ?_
      refine j_goto 38 dX7_right_34 ?_
      exact j_iret dX7_right_38 rfl rfl ⟨congrArg (fun z => some (Value.int (iI z))) (by first | exact (if_pos (by omega)).symm | exact (if_neg (by omega)).symm), rfl⟩
  · omega

set_option maxRecDepth 100000 in
set_option maxHeartbeats 4000000 in
theorem c_X7_owns_ok (E : jD) (fnd : Int) (ask : Int) (wd : Int) (mm : Int) (um : Int) (nd : Int) (m0 : Nat) (m1 : Nat) (m2 : Nat) (m3 : Nat) (m4 : Nat) (m5 : Nat) (m6 : Nat) (m7 : Nat) (m8 : Nat) (m9 : Nat) (m10 : Nat) (m11 : Nat) (m12 : Nat) (thr : Int) (pd : Int) (pal : Int) (it : Nat → Int32) (n : Nat) (i : Nat) (hn : 0 ≤ (n : Int) ∧ (n : Int) ≤ 48) (hi : i < n) : MC E Y_X7_owns [.ref m0, .int (iI (i : Int))] [(m0, jO 7 [.int (iI thr), .int (iI ask), .int (iI fnd), .ref m1, .ref m2, .ref m3, .int (iI (n : Int)), .int (iI wd), .ref m4, .ref m5, .int (iI mm), .ref m6, .ref m7, .int (iI um), .ref m8, .ref m9, .ref m10, .ref m11, .int (iI pd), .int (iI nd), .ref m12, .int (iI pal)]), (m4, jA E 48 it)] (fun rr N0 => rr = some (.int (iI (ownF (tI it) n i))) ∧ N0 = [(m0, jO 7 [.int (iI 0), .int (iI ask), .int (iI fnd), .ref m1, .ref m2, .ref m3, .int (iI (n : Int)), .int (iI wd), .ref m4, .ref m5, .int (iI mm), .ref m6, .ref m7, .int (iI um), .ref m8, .ref m9, .ref m10, .ref m11, .int (iI pd), .int (iI nd), .ref m12, .int (iI pal)]), (m4, jA E 48 it)]) := by
  refine MC.of (by decide) rfl rfl ?_
  refine j_aload_0 1 dX7_owns_0 rfl ?_
  refine j_iconst 2 dX7_owns_1 ?_
  refine j_put 5 0 pf_X7_46 dX7_owns_2 rfl ⟨rfl, rfl, rfl⟩ ?_
  refine j_aload_0 6 dX7_owns_5 rfl ?_
  refine j_iload_1 7 dX7_owns_6 rfl ?_
  refine j_iload_1 8 dX7_owns_7 rfl ?_
  refine j_callVi 11 Y_X7_againstRun [0] [_, _] (c_X7_againstRun_ok E _ _ _ _ _ _ _ _ _ _ _ _ _ _ _ _ _ _ _ _ _ _ _ _ _ hn (by omega) (by omega)) m_X7_againstRun wml_X7_113 dX7_owns_8 0 rfl rfl rfl rfl rfl rfl rfl rfl rfl rfl ?_
  refine j_istore_2 12 (lv' := [(0, _), (1, _), (2, _)]) dX7_owns_11 rfl ⟨rfl, rfl⟩ ?_
  refine j_iload_2 13 dX7_owns_12 rfl ?_
  refine j_if_eq 20 16 dX7_owns_13 (by first | with_reducible exact iI_rng _ | with_reducible exact bI_r _ | exact ⟨by omega, by omega⟩) (fun q13 => ?_) (fun q13 => ?_)
  · refine j_aload_0 21 dX7_owns_20 rfl ?_
    refine j_iload_1 22 dX7_owns_21 rfl ?_
    refine j_callVi 25 Y_X7_ownsOf [0, 1] [_] (c_X7_ownsOf E _ _ _ _ _ _ _ _ _ _ _ _ _ _ _ _ _ _ _ _ _ _ _ _ _ (by omega) hi) m_X7_ownsOf wml_X7_125 dX7_owns_22 0 rfl rfl rfl rfl rfl rfl rfl rfl rfl rfl ?_
    exact j_iret dX7_owns_25 rfl rfl ⟨rfl, rfl⟩
  · omega

set_option maxRecDepth 100000 in
set_option maxHeartbeats 4000000 in
theorem c_X7_size_ok (E : jD) (fnd : Int) (ask : Int) (wd : Int) (mm : Int) (um : Int) (nd : Int) (m0 : Nat) (m1 : Nat) (m2 : Nat) (m3 : Nat) (m4 : Nat) (m5 : Nat) (m6 : Nat) (m7 : Nat) (m8 : Nat) (m9 : Nat) (m10 : Nat) (m11 : Nat) (m12 : Nat) (thr : Int) (pd : Int) (pal : Int) (it : Nat → Int32) (n : Nat) (i : Nat) (hn : 0 ≤ (n : Int) ∧ (n : Int) ≤ 48) (hi : i < n) : MC E Y_X7_size [.ref m0, .int (iI (i : Int))] [(m0, jO 7 [.int (iI thr), .int (iI ask), .int (iI fnd), .ref m1, .ref m2, .ref m3, .int (iI (n : Int)), .int (iI wd), .ref m4, .ref m5, .int (iI mm), .ref m6, .ref m7, .int (iI um), .ref m8, .ref m9, .ref m10, .ref m11, .int (iI pd), .int (iI nd), .ref m12, .int (iI pal)]), (m4, jA E 48 it)] (fun rr N0 => rr = some (.int (iI ((rtE (tI it) n i : Int) - lfE (tI it) i - 1))) ∧ N0 = [(m0, jO 7 [.int (iI 0), .int (iI ask), .int (iI fnd), .ref m1, .ref m2, .ref m3, .int (iI (n : Int)), .int (iI wd), .ref m4, .ref m5, .int (iI mm), .ref m6, .ref m7, .int (iI um), .ref m8, .ref m9, .ref m10, .ref m11, .int (iI pd), .int (iI nd), .ref m12, .int (iI pal)]), (m4, jA E 48 it)]) := by
  refine MC.of (by decide) rfl rfl ?_
  refine j_aload_0 1 dX7_size_0 rfl ?_
  refine j_iconst 2 dX7_size_1 ?_
  refine j_put 5 0 pf_X7_46 dX7_size_2 rfl ⟨rfl, rfl, rfl⟩ ?_
  refine j_aload_0 6 dX7_size_5 rfl ?_
  refine j_iload_1 7 dX7_size_6 rfl ?_
  refine j_iload_1 8 dX7_size_7 rfl ?_
  refine j_callVi 11 Y_X7_againstRun [0] [_, _] (c_X7_againstRun_ok E _ _ _ _ _ _ _ _ _ _ _ _ _ _ _ _ _ _ _ _ _ _ _ _ _ hn (by omega) (by omega)) m_X7_againstRun wml_X7_113 dX7_size_8 0 rfl rfl rfl rfl rfl rfl rfl rfl rfl rfl ?_
  refine j_istore_2 12 (lv' := [(0, _), (1, _), (2, _)]) dX7_size_11 rfl ⟨rfl, rfl⟩ ?_
  refine j_iload_2 13 dX7_size_12 rfl ?_
  refine j_if_eq 20 16 dX7_size_13 (by first | with_reducible exact iI_rng _ | with_reducible exact bI_r _ | exact ⟨by omega, by omega⟩) (fun q13 => ?_) (fun q13 => ?_)
  · refine j_aload_0 21 dX7_size_20 rfl ?_
    refine j_iload_1 22 dX7_size_21 rfl ?_
    refine j_callVi 25 Y_X7_rightOf [0, 1] [_] (c_X7_rightOf E _ _ _ _ _ _ _ _ _ _ _ _ _ _ _ _ _ _ _ _ _ _ _ _ _ (by omega) hi) m_X7_rightOf wml_X7_122 dX7_size_22 0 rfl rfl rfl rfl rfl rfl rfl rfl rfl rfl ?_
    refine j_aload_0 26 dX7_size_25 rfl ?_
    refine j_iload_1 27 dX7_size_26 rfl ?_
    refine j_callVi 30 Y_X7_leftOf [0, 1] [_] (c_X7_leftOf E _ _ _ _ _ _ _ _ _ _ _ _ _ _ _ _ _ _ _ _ _ _ _ _ _ (by omega)) m_X7_leftOf wml_X7_119 dX7_size_27 0 rfl rfl rfl rfl rfl rfl rfl rfl rfl rfl ?_
    refine j_isub 31 dX7_size_30 ?_
    refine j_iconst 32 dX7_size_31 ?_
    refine j_isub 33 dX7_size_32 ?_
    exact j_iret dX7_size_33 rfl rfl ⟨rfl, rfl⟩
  · omega

set_option maxRecDepth 100000 in
set_option maxHeartbeats 4000000 in
theorem c_X7_parent_ok (E : jD) (fnd : Int) (ask : Int) (wd : Int) (mm : Int) (um : Int) (nd : Int) (m0 : Nat) (m1 : Nat) (m2 : Nat) (m3 : Nat) (m4 : Nat) (m5 : Nat) (m6 : Nat) (m7 : Nat) (m8 : Nat) (m9 : Nat) (m10 : Nat) (m11 : Nat) (m12 : Nat) (thr : Int) (pd : Int) (pal : Int) (it : Nat → Int32) (n : Nat) (i : Nat) (hn : 0 ≤ (n : Int) ∧ (n : Int) ≤ 48) (hi : i < n) : MC E Y_X7_parent [.ref m0, .int (iI (i : Int))] [(m0, jO 7 [.int (iI thr), .int (iI ask), .int (iI fnd), .ref m1, .ref m2, .ref m3, .int (iI (n : Int)), .int (iI wd), .ref m4, .ref m5, .int (iI mm), .ref m6, .ref m7, .int (iI um), .ref m8, .ref m9, .ref m10, .ref m11, .int (iI pd), .int (iI nd), .ref m12, .int (iI pal)]), (m4, jA E 48 it)] (fun rr N0 => rr = some (.int (iI ((dmF (tI it) i n 0 (n - 1) (0, -9)).2))) ∧ N0 = [(m0, jO 7 [.int (iI 0), .int (iI ask), .int (iI fnd), .ref m1, .ref m2, .ref m3, .int (iI (n : Int)), .int (iI wd), .ref m4, .ref m5, .int (iI mm), .ref m6, .ref m7, .int (iI um), .ref m8, .ref m9, .ref m10, .ref m11, .int (iI pd), .int (iI nd), .ref m12, .int (iI (dmF (tI it) i n 0 (n - 1) (0, -9)).2)]), (m4, jA E 48 it)]) := by
  refine MC.of (by decide) rfl rfl ?_
  refine j_aload_0 1 dX7_parent_0 rfl ?_
  refine j_iconst 2 dX7_parent_1 ?_
  refine j_put 5 0 pf_X7_46 dX7_parent_2 rfl ⟨rfl, rfl, rfl⟩ ?_
  refine j_aload_0 6 dX7_parent_5 rfl ?_
  refine j_iload_1 7 dX7_parent_6 rfl ?_
  refine j_iload_1 8 dX7_parent_7 rfl ?_
  refine j_callVi 11 Y_X7_againstRun [0] [_, _] (c_X7_againstRun_ok E _ _ _ _ _ _ _ _ _ _ _ _ _ _ _ _ _ _ _ _ _ _ _ _ _ hn (by omega) (by omega)) m_X7_againstRun wml_X7_113 dX7_parent_8 0 rfl rfl rfl rfl rfl rfl rfl rfl rfl rfl ?_
  refine j_istore_2 12 (lv' := [(0, _), (1, _), (2, _)]) dX7_parent_11 rfl ⟨rfl, rfl⟩ ?_
  refine j_iload_2 13 dX7_parent_12 rfl ?_
  refine j_if_eq 18 16 dX7_parent_13 (by first | with_reducible exact iI_rng _ | with_reducible exact bI_r _ | exact ⟨by omega, by omega⟩) (fun q13 => ?_) (fun q13 => ?_)
  · refine j_aload_0 19 dX7_parent_18 rfl ?_
    refine j_iload_1 20 dX7_parent_19 rfl ?_
    refine j_callV 23 Y_X7_depthOf [0, 1] [_] (c_X7_depthOf E _ _ _ _ _ _ _ _ _ _ _ _ _ _ _ _ _ _ _ _ _ _ _ _ _ (by omega) hi) m_X7_depthOf wml_X7_131 dX7_parent_20 0 rfl rfl rfl rfl rfl rfl rfl rfl rfl (fun r N h => by obtain ⟨rfl, rfl⟩ := h; rfl) (fun r N h => ?_)
    obtain ⟨rfl, rfl⟩ := h
    refine j_pop 24 dX7_parent_23 rfl ?_
    refine j_aload_0 25 dX7_parent_24 rfl ?_
    refine j_get 28 0 gf_X7_128 dX7_parent_25 rfl rfl ?_
    exact j_iret dX7_parent_28 rfl rfl ⟨rfl, rfl⟩
  · omega

set_option maxRecDepth 100000 in
set_option maxHeartbeats 4000000 in
theorem c_X7_depth_ok (E : jD) (fnd : Int) (ask : Int) (wd : Int) (mm : Int) (um : Int) (nd : Int) (m0 : Nat) (m1 : Nat) (m2 : Nat) (m3 : Nat) (m4 : Nat) (m5 : Nat) (m6 : Nat) (m7 : Nat) (m8 : Nat) (m9 : Nat) (m10 : Nat) (m11 : Nat) (m12 : Nat) (thr : Int) (pd : Int) (pal : Int) (it : Nat → Int32) (n : Nat) (i : Nat) (hn : 0 ≤ (n : Int) ∧ (n : Int) ≤ 48) (hi : i < n) : MC E Y_X7_depth [.ref m0, .int (iI (i : Int))] [(m0, jO 7 [.int (iI thr), .int (iI ask), .int (iI fnd), .ref m1, .ref m2, .ref m3, .int (iI (n : Int)), .int (iI wd), .ref m4, .ref m5, .int (iI mm), .ref m6, .ref m7, .int (iI um), .ref m8, .ref m9, .ref m10, .ref m11, .int (iI pd), .int (iI nd), .ref m12, .int (iI pal)]), (m4, jA E 48 it)] (fun rr N0 => rr = some (.int (iI (((dmF (tI it) i n 0 (n - 1) (0, -9)).1 : Nat)))) ∧ N0 = [(m0, jO 7 [.int (iI 0), .int (iI ask), .int (iI fnd), .ref m1, .ref m2, .ref m3, .int (iI (n : Int)), .int (iI wd), .ref m4, .ref m5, .int (iI mm), .ref m6, .ref m7, .int (iI um), .ref m8, .ref m9, .ref m10, .ref m11, .int (iI pd), .int (iI nd), .ref m12, .int (iI (dmF (tI it) i n 0 (n - 1) (0, -9)).2)]), (m4, jA E 48 it)]) := by
  refine MC.of (by decide) rfl rfl ?_
  refine j_aload_0 1 dX7_depth_0 rfl ?_
  refine j_iconst 2 dX7_depth_1 ?_
  refine j_put 5 0 pf_X7_46 dX7_depth_2 rfl ⟨rfl, rfl, rfl⟩ ?_
  refine j_aload_0 6 dX7_depth_5 rfl ?_
  refine j_iload_1 7 dX7_depth_6 rfl ?_
  refine j_iload_1 8 dX7_depth_7 rfl ?_
  refine j_callVi 11 Y_X7_againstRun [0] [_, _] (c_X7_againstRun_ok E _ _ _ _ _ _ _ _ _ _ _ _ _ _ _ _ _ _ _ _ _ _ _ _ _ hn (by omega) (by omega)) m_X7_againstRun wml_X7_113 dX7_depth_8 0 rfl rfl rfl rfl rfl rfl rfl rfl rfl rfl ?_
  refine j_istore_2 12 (lv' := [(0, _), (1, _), (2, _)]) dX7_depth_11 rfl ⟨rfl, rfl⟩ ?_
  refine j_iload_2 13 dX7_depth_12 rfl ?_
  refine j_if_eq 20 16 dX7_depth_13 (by first | with_reducible exact iI_rng _ | with_reducible exact bI_r _ | exact ⟨by omega, by omega⟩) (fun q13 => ?_) (fun q13 => ?_)
  · refine j_aload_0 21 dX7_depth_20 rfl ?_
    refine j_iload_1 22 dX7_depth_21 rfl ?_
    refine j_callV 25 Y_X7_depthOf [0, 1] [_] (c_X7_depthOf E _ _ _ _ _ _ _ _ _ _ _ _ _ _ _ _ _ _ _ _ _ _ _ _ _ (by omega) hi) m_X7_depthOf wml_X7_131 dX7_depth_22 0 rfl rfl rfl rfl rfl rfl rfl rfl rfl (fun r N h => by obtain ⟨rfl, rfl⟩ := h; rfl) (fun r N h => ?_)
    obtain ⟨rfl, rfl⟩ := h
    exact j_iret dX7_depth_25 rfl rfl ⟨rfl, rfl⟩
  · omega

set_option maxRecDepth 100000 in
set_option maxHeartbeats 4000000 in
theorem c_X7_least_ok (E : jD) (fnd : Int) (ask : Int) (wd : Int) (mm : Int) (um : Int) (nd : Int) (m0 : Nat) (m1 : Nat) (m2 : Nat) (m3 : Nat) (m4 : Nat) (m5 : Nat) (m6 : Nat) (m7 : Nat) (m8 : Nat) (m9 : Nat) (m10 : Nat) (m11 : Nat) (m12 : Nat) (thr : Int) (pd : Int) (pal : Int) (it : Nat → Int32) (n : Nat) (i j : Nat) (hn : 0 ≤ (n : Int) ∧ (n : Int) ≤ 48) (hij : i ≤ j) (hj : j < n) : MC E Y_X7_least [.ref m0, .int (iI (i : Int)), .int (iI (j : Int))] [(m0, jO 7 [.int (iI thr), .int (iI ask), .int (iI fnd), .ref m1, .ref m2, .ref m3, .int (iI (n : Int)), .int (iI wd), .ref m4, .ref m5, .int (iI mm), .ref m6, .ref m7, .int (iI um), .ref m8, .ref m9, .ref m10, .ref m11, .int (iI pd), .int (iI nd), .ref m12, .int (iI pal)]), (m4, jA E 48 it)] (fun rr N0 => rr = some (.int (iI ((lsF (tI it) i (j - i) : Nat)))) ∧ N0 = [(m0, jO 7 [.int (iI 0), .int (iI (it (lsF (tI it) i (j - i))).toInt), .int (iI fnd), .ref m1, .ref m2, .ref m3, .int (iI (n : Int)), .int (iI wd), .ref m4, .ref m5, .int (iI mm), .ref m6, .ref m7, .int (iI um), .ref m8, .ref m9, .ref m10, .ref m11, .int (iI pd), .int (iI nd), .ref m12, .int (iI pal)]), (m4, jA E 48 it)]) := by
  refine MC.of (by decide) rfl rfl ?_
  have hl1 := lsF_in (tI it) i (j - i)
  refine j_aload_0 1 dX7_least_0 rfl ?_
  refine j_iconst 2 dX7_least_1 ?_
  refine j_put 5 0 pf_X7_46 dX7_least_2 rfl ⟨rfl, rfl, rfl⟩ ?_
  refine j_aload_0 6 dX7_least_5 rfl ?_
  refine j_iload_1 7 dX7_least_6 rfl ?_
  refine j_iload_2 8 dX7_least_7 rfl ?_
  refine j_callVi 11 Y_X7_againstRun [0] [_, _] (c_X7_againstRun_ok E _ _ _ _ _ _ _ _ _ _ _ _ _ _ _ _ _ _ _ _ _ _ _ _ _ hn (by omega) (by omega)) m_X7_againstRun wml_X7_113 dX7_least_8 0 rfl rfl rfl rfl rfl rfl rfl rfl rfl rfl ?_
  refine j_istore_3 12 (lv' := [(0, _), (1, _), (2, _), (3, _)]) dX7_least_11 rfl ⟨rfl, rfl⟩ ?_
  refine j_iload_3 13 dX7_least_12 rfl ?_
  refine j_if_eq 18 16 dX7_least_13 (by first | with_reducible exact iI_rng _ | with_reducible exact bI_r _ | exact ⟨by omega, by omega⟩) (fun q13 => ?_) (fun q13 => ?_)
  · refine j_aload_0 19 dX7_least_18 rfl ?_
    refine j_iload_1 20 dX7_least_19 rfl ?_
    refine j_iload_2 21 dX7_least_20 rfl ?_
    refine j_callVi 24 Y_X7_leastOf [0, 1] [_, _] (c_X7_leastOf E _ _ _ _ _ _ _ _ _ _ _ _ _ _ _ _ _ _ _ _ _ _ _ _ _ _ (by omega) hij) m_X7_leastOf wml_X7_116 dX7_least_21 0 rfl rfl rfl rfl rfl rfl rfl rfl rfl rfl ?_
    refine j_istore 26 (lv' := [(0, _), (1, _), (2, _), (3, _), (4, _)]) dX7_least_24 rfl ⟨rfl, rfl⟩ ?_
    refine j_aload_0 27 dX7_least_26 rfl ?_
    refine j_iload 29 dX7_least_27 rfl ?_
    refine j_aload_0 30 dX7_least_29 rfl ?_
    refine j_get 33 0 gf_X7_19 dX7_least_30 rfl rfl ?_
    refine j_iload 35 dX7_least_33 rfl ?_
    refine j_iald 36 1 _ dX7_least_35 rfl rfl rfl (by omega) ?_
    refine j_callV 39 Y_X7_tells [0] [_, _] (c_X7_tells E _ _ _ _ _ _ _ _ _ _ _ _ _ _ _ _ _ _ _ _ _ _ _ _ _) m_X7_tells wml_X7_72 dX7_least_36 0 rfl rfl rfl rfl rfl rfl rfl rfl rfl (fun r N h => by obtain ⟨rfl, rfl⟩ := h; rfl) (fun r N h => ?_)
    obtain ⟨rfl, rfl⟩ := h
    exact j_iret dX7_least_39 rfl rfl ⟨rfl, rfl⟩
  · omega

set_option maxRecDepth 100000 in
set_option maxHeartbeats 4000000 in
theorem lp7_kth_in (E : jD) (fnd : Int) (ask : Int) (wd : Int) (mm : Int) (um : Int) (nd : Int) (m0 : Nat) (m1 : Nat) (m2 : Nat) (m3 : Nat) (m4 : Nat) (m5 : Nat) (m6 : Nat) (m7 : Nat) (m8 : Nat) (m9 : Nat) (m10 : Nat) (m11 : Nat) (m12 : Nat) (pd : Int) (pal : Int) (it : Nat → Int32) (n i j : Nat) (k : Int) (hj : j < n) (hn : n ≤ 48) (hij : i ≤ j) (p : Nat) (hp : i ≤ p ∧ p ≤ j) (Z : jZ) (hk : 0 ≤ k ∧ k ≤ (j : Int) - i) : ∀ (d : Nat) (c : Nat), j + 1 - i - c < d → (c ≤ j + 1 - i) → (J E Y_X7_kth Z 0 0 116 [(0, .ref m0), (1, .int (iI (i : Int))), (2, .int (iI (j : Int))), (3, .int (iI k)), (4, .int (iI 0)), (5, .int (iI (p : Int))), (6, .int (iI (rkF (tI it) p i (j + 1 - i)))), (7, .int (iI (((j + 1 : Nat) : Int) : Int)))] [] [(m0, jO 7 [.int (iI 0), .int (iI ask), .int (iI fnd), .ref m1, .ref m2, .ref m3, .int (iI (n : Int)), .int (iI wd), .ref m4, .ref m5, .int (iI mm), .ref m6, .ref m7, .int (iI um), .ref m8, .ref m9, .ref m10, .ref m11, .int (iI pd), .int (iI nd), .ref m12, .int (iI pal)]), (m4, jA E 48 it)]) → J E Y_X7_kth Z 0 0 53 [(0, .ref m0), (1, .int (iI (i : Int))), (2, .int (iI (j : Int))), (3, .int (iI k)), (4, .int (iI 0)), (5, .int (iI (p : Int))), (6, .int (iI (rkF (tI it) p i c))), (7, .int (iI (((i + c : Nat) : Int) : Int)))] [] [(m0, jO 7 [.int (iI 0), .int (iI ask), .int (iI fnd), .ref m1, .ref m2, .ref m3, .int (iI (n : Int)), .int (iI wd), .ref m4, .ref m5, .int (iI mm), .ref m6, .ref m7, .int (iI um), .ref m8, .ref m9, .ref m10, .ref m11, .int (iI pd), .int (iI nd), .ref m12, .int (iI pal)]), (m4, jA E 48 it)] := by
  intro d
  induction d with
  | zero => intros; omega
  | succ d ih =>
    intro c hd hc kk
    have hri := rkF_in (tI it) p i c
    refine j_iload 55 dX7_kth_53 rfl ?_
    refine j_iload_2 56 dX7_kth_55 rfl ?_
    refine j_icmp_gt 116 59 dX7_kth_56 (by first | with_reducible exact iI_rng _ | with_reducible exact bI_r _ | exact ⟨by omega, by omega⟩) (by first | with_reducible exact iI_rng _ | with_reducible exact bI_r _ | exact ⟨by omega, by omega⟩) (fun q56 => ?_) (fun q56 => ?_)
    · have e0 : c = j + 1 - i := by omega
      subst e0
      rw [show i + (j + 1 - i) = j + 1 by omega]
      exact kk
    · have hst : rkF (tI it) p i (c + 1) = rkF (tI it) p i c + (if (tI it) (i + c) < (tI it) p ∨ (i + c < p ∧ (tI it) (i + c) = (tI it) p) then 1 else 0) := rfl
      refine j_iload 61 dX7_kth_59 rfl ?_
      refine j_aload_0 62 dX7_kth_61 rfl ?_
      refine j_get 65 0 gf_X7_19 dX7_kth_62 rfl rfl ?_
      refine j_iload 67 dX7_kth_65 rfl ?_
      refine j_iald 68 1 _ dX7_kth_67 rfl rfl rfl (by omega) ?_
      refine j_aload_0 69 dX7_kth_68 rfl ?_
      refine j_get 72 0 gf_X7_19 dX7_kth_69 rfl rfl ?_
      refine j_iload 74 dX7_kth_72 rfl ?_
      refine j_iald 75 1 _ dX7_kth_74 rfl rfl rfl (by omega) ?_
      refine j_icmp_lt 102 78 dX7_kth_75 (by first | with_reducible exact iI_rng _ | with_reducible exact bI_r _ | exact ⟨by omega, by omega⟩) (by first | with_reducible exact iI_rng _ | with_reducible exact bI_r _ | exact ⟨by omega, by omega⟩) (fun q75 => ?_) (fun q75 => ?_)
      · refine j_iconst 103 dX7_kth_102 ?_
        refine j_goto 107 dX7_kth_103 ?_
        refine j_top (if (tI it) (i + c) < (tI it) p ∨ (i + c < p ∧ (tI it) (i + c) = (tI it) p) then 1 else 0) (congrArg iI (by first | exact (if_pos (show (it (i + c)).toInt < (it p).toInt ∨ (i + c < p ∧ (it (i + c)).toInt = (it p).toInt) by omega)).symm | exact (if_neg (show ¬ ((it (i + c)).toInt < (it p).toInt ∨ (i + c < p ∧ (it (i + c)).toInt = (it p).toInt)) by omega)).symm)) ?_
        refine j_iadd 108 dX7_kth_107 ?_
        refine j_istore 110 (lv' := [(0, _), (1, _), (2, _), (3, _), (4, _), (5, _), (6, _), (7, _)]) dX7_kth_108 rfl ⟨rfl, rfl⟩ ?_
        refine j_iinc 113 (lv' := [(0, _), (1, _), (2, _), (3, _), (4, _), (5, _), (6, _), (7, _)]) dX7_kth_110 rfl rfl ⟨rfl, rfl⟩ ?_
        refine j_goto 53 dX7_kth_113 ?_
        have h := ih (c + 1) (by omega) (by omega) kk
        rw [hst] at h
        exact h
      · refine j_aload_0 79 dX7_kth_78 rfl ?_
        refine j_get 82 0 gf_X7_19 dX7_kth_79 rfl rfl ?_
        refine j_iload 84 dX7_kth_82 rfl ?_
        refine j_iald 85 1 _ dX7_kth_84 rfl rfl rfl (by omega) ?_
        refine j_aload_0 86 dX7_kth_85 rfl ?_
        refine j_get 89 0 gf_X7_19 dX7_kth_86 rfl rfl ?_
        refine j_iload 91 dX7_kth_89 rfl ?_
        refine j_iald 92 1 _ dX7_kth_91 rfl rfl rfl (by omega) ?_
        refine j_icmp_ne 106 95 dX7_kth_92 (by first | with_reducible exact iI_rng _ | with_reducible exact bI_r _ | exact ⟨by omega, by omega⟩) (by first | with_reducible exact iI_rng _ | with_reducible exact bI_r _ | exact ⟨by omega, by omega⟩) (fun q92 => ?_) (fun q92 => ?_)
        · refine j_iconst 107 dX7_kth_106 ?_
          refine j_top (if (tI it) (i + c) < (tI it) p ∨ (i + c < p ∧ (tI it) (i + c) = (tI it) p) then 1 else 0) (congrArg iI (by first | exact (if_pos (show (it (i + c)).toInt < (it p).toInt ∨ (i + c < p ∧ (it (i + c)).toInt = (it p).toInt) by omega)).symm | exact (if_neg (show ¬ ((it (i + c)).toInt < (it p).toInt ∨ (i + c < p ∧ (it (i + c)).toInt = (it p).toInt)) by omega)).symm)) ?_
          refine j_iadd 108 dX7_kth_107 ?_
          refine j_istore 110 (lv' := [(0, _), (1, _), (2, _), (3, _), (4, _), (5, _), (6, _), (7, _)]) dX7_kth_108 rfl ⟨rfl, rfl⟩ ?_
          refine j_iinc 113 (lv' := [(0, _), (1, _), (2, _), (3, _), (4, _), (5, _), (6, _), (7, _)]) dX7_kth_110 rfl rfl ⟨rfl, rfl⟩ ?_
          refine j_goto 53 dX7_kth_113 ?_
          have h := ih (c + 1) (by omega) (by omega) kk
          rw [hst] at h
          exact h
        · refine j_iload 97 dX7_kth_95 rfl ?_
          refine j_iload 99 dX7_kth_97 rfl ?_
          refine j_icmp_ge 106 102 dX7_kth_99 (by first | with_reducible exact iI_rng _ | with_reducible exact bI_r _ | exact ⟨by omega, by omega⟩) (by first | with_reducible exact iI_rng _ | with_reducible exact bI_r _ | exact ⟨by omega, by omega⟩) (fun q99 => ?_) (fun q99 => ?_)
          · refine j_iconst 107 dX7_kth_106 ?_
            refine j_top (if (tI it) (i + c) < (tI it) p ∨ (i + c < p ∧ (tI it) (i + c) = (tI it) p) then 1 else 0) (congrArg iI (by first | exact (if_pos (show (it (i + c)).toInt < (it p).toInt ∨ (i + c < p ∧ (it (i + c)).toInt = (it p).toInt) by omega)).symm | exact (if_neg (show ¬ ((it (i + c)).toInt < (it p).toInt ∨ (i + c < p ∧ (it (i + c)).toInt = (it p).toInt)) by omega)).symm)) ?_
            refine j_iadd 108 dX7_kth_107 ?_
            refine j_istore 110 (lv' := [(0, _), (1, _), (2, _), (3, _), (4, _), (5, _), (6, _), (7, _)]) dX7_kth_108 rfl ⟨rfl, rfl⟩ ?_
            refine j_iinc 113 (lv' := [(0, _), (1, _), (2, _), (3, _), (4, _), (5, _), (6, _), (7, _)]) dX7_kth_110 rfl rfl ⟨rfl, rfl⟩ ?_
            refine j_goto 53 dX7_kth_113 ?_
            have h := ih (c + 1) (by omega) (by omega) kk
            rw [hst] at h
            exact h
          · refine j_iconst 103 dX7_kth_102 ?_
            refine j_goto 107 dX7_kth_103 ?_
            refine j_top (if (tI it) (i + c) < (tI it) p ∨ (i + c < p ∧ (tI it) (i + c) = (tI it) p) then 1 else 0) (congrArg iI (by first | exact (if_pos (show (it (i + c)).toInt < (it p).toInt ∨ (i + c < p ∧ (it (i + c)).toInt = (it p).toInt) by omega)).symm | exact (if_neg (show ¬ ((it (i + c)).toInt < (it p).toInt ∨ (i + c < p ∧ (it (i + c)).toInt = (it p).toInt)) by omega)).symm)) ?_
            refine j_iadd 108 dX7_kth_107 ?_
            refine j_istore 110 (lv' := [(0, _), (1, _), (2, _), (3, _), (4, _), (5, _), (6, _), (7, _)]) dX7_kth_108 rfl ⟨rfl, rfl⟩ ?_
            refine j_iinc 113 (lv' := [(0, _), (1, _), (2, _), (3, _), (4, _), (5, _), (6, _), (7, _)]) dX7_kth_110 rfl rfl ⟨rfl, rfl⟩ ?_
            refine j_goto 53 dX7_kth_113 ?_
            have h := ih (c + 1) (by omega) (by omega) kk
            rw [hst] at h
            exact h

theorem ktF_hit {g : Nat → Int} {a w : Nat} {k : Int} : ∀ (d p : Nat), rkF g p a w = k → ktF g a w k d p = p
  | 0, _, _ => rfl
  | d + 1, _, h => if_pos h

set_option maxRecDepth 100000 in
set_option maxHeartbeats 4000000 in
theorem lp7_kth (E : jD) (fnd : Int) (ask : Int) (wd : Int) (mm : Int) (um : Int) (nd : Int) (m0 : Nat) (m1 : Nat) (m2 : Nat) (m3 : Nat) (m4 : Nat) (m5 : Nat) (m6 : Nat) (m7 : Nat) (m8 : Nat) (m9 : Nat) (m10 : Nat) (m11 : Nat) (m12 : Nat) (pd : Int) (pal : Int) (it : Nat → Int32) (n i j : Nat) (k : Int) (hj : j < n) (hn : n ≤ 48) (hij : i ≤ j) (hk : 0 ≤ k ∧ k ≤ (j : Int) - i) : ∀ (d : Nat) (d0 p : Nat) (z6 : List (Nat × Value)), d0 < d → (i ≤ p ∧ p + d0 = j) → (ktF (tI it) i (j + 1 - i) k d0 p = (ktF (tI it) i (j + 1 - i) k (j - i) i)) → (∃ q, p ≤ q ∧ q ≤ j ∧ rkF (tI it) q i (j + 1 - i) = k) → (z6 = [] ∨ ∃ x y, z6 = [(6, x), (7, y)]) → J E Y_X7_kth (jZm E Y_X7_kth (fun rr N0 => rr = some (.int (iI (((ktF (tI it) i (j + 1 - i) k (j - i) i) : Nat)))) ∧ N0 = [(m0, jO 7 [.int (iI 0), .int (iI (it (ktF (tI it) i (j + 1 - i) k (j - i) i)).toInt), .int (iI fnd), .ref m1, .ref m2, .ref m3, .int (iI (n : Int)), .int (iI wd), .ref m4, .ref m5, .int (iI mm), .ref m6, .ref m7, .int (iI um), .ref m8, .ref m9, .ref m10, .ref m11, .int (iI pd), .int (iI nd), .ref m12, .int (iI pal)]), (m4, jA E 48 it)])) 0 0 41 ([(0, .ref m0), (1, .int (iI (i : Int))), (2, .int (iI (j : Int))), (3, .int (iI k)), (4, .int (iI 0)), (5, .int (iI (p : Int)))] ++ z6) [] [(m0, jO 7 [.int (iI 0), .int (iI ask), .int (iI fnd), .ref m1, .ref m2, .ref m3, .int (iI (n : Int)), .int (iI wd), .ref m4, .ref m5, .int (iI mm), .ref m6, .ref m7, .int (iI um), .ref m8, .ref m9, .ref m10, .ref m11, .int (iI pd), .int (iI nd), .ref m12, .int (iI pal)]), (m4, jA E 48 it)] := by
  intro d
  induction d with
  | zero => intros; omega
  | succ d ih =>
    intro d0 p z6 hd hp he hx hz6
    refine j_take 6 ?_
    refine j_eqL (lv' := [(0, .ref m0), (1, .int (iI (i : Int))), (2, .int (iI (j : Int))), (3, .int (iI k)), (4, .int (iI 0)), (5, .int (iI (p : Int)))]) (by rcases hz6 with rfl | ⟨x, y, rfl⟩ <;> rfl) ?_
    refine j_iload 43 dX7_kth_41 rfl ?_
    refine j_iload_2 44 dX7_kth_43 rfl ?_
    refine j_icmp_gt 142 47 dX7_kth_44 (by first | with_reducible exact iI_rng _ | with_reducible exact bI_r _ | exact ⟨by omega, by omega⟩) (by first | with_reducible exact iI_rng _ | with_reducible exact bI_r _ | exact ⟨by omega, by omega⟩) (fun q44 => ?_) (fun q44 => ?_)
    · omega
    · refine j_iconst 48 dX7_kth_47 ?_
      refine j_istore 50 (lv' := [(0, _), (1, _), (2, _), (3, _), (4, _), (5, _), (6, _)]) dX7_kth_48 rfl ⟨rfl, rfl⟩ ?_
      refine j_iload_1 51 dX7_kth_50 rfl ?_
      refine j_istore 53 (lv' := [(0, _), (1, _), (2, _), (3, _), (4, _), (5, _), (6, _), (7, _)]) dX7_kth_51 rfl ⟨rfl, rfl⟩ ?_
      have hri := rkF_in (tI it) p i (j + 1 - i)
      refine lp7_kth_in E fnd ask wd mm um nd m0 m1 m2 m3 m4 m5 m6 m7 m8 m9 m10 m11 m12 pd pal it n i j k hj hn hij p (by omega) _ hk (j + 2 - i) 0 (by omega) (by omega) ?_
      refine j_iload 118 dX7_kth_116 rfl ?_
      refine j_iload_3 119 dX7_kth_118 rfl ?_
      refine j_icmp_ne 136 122 dX7_kth_119 (by first | with_reducible exact iI_rng _ | with_reducible exact bI_r _ | exact ⟨by omega, by omega⟩) (by first | with_reducible exact iI_rng _ | with_reducible exact bI_r _ | exact ⟨by omega, by omega⟩) (fun q119 => ?_) (fun q119 => ?_)
      · obtain ⟨d0, rfl⟩ : ∃ q, d0 = q + 1 := by
          cases d0 with
          | zero =>
            obtain ⟨q, h1, h2, h3⟩ := hx
            obtain rfl : q = p := by omega
            exact absurd h3 q119
          | succ q => exact ⟨q, rfl⟩
        have e2 : ktF (tI it) i (j + 1 - i) k (d0 + 1) p = ktF (tI it) i (j + 1 - i) k d0 (p + 1) := if_neg q119
        rw [e2] at he
        refine j_iinc 139 (lv' := [(0, _), (1, _), (2, _), (3, _), (4, _), (5, _), (6, _), (7, _)]) dX7_kth_136 rfl rfl ⟨rfl, rfl⟩ ?_
        refine j_goto 41 dX7_kth_139 ?_
        refine ih d0 (p + 1) [(6, _), (7, _)] (by omega) (by omega) he ?_ (Or.inr ⟨_, _, rfl⟩)
        obtain ⟨q, h1, h2, h3⟩ := hx
        refine ⟨q, ?_, h2, h3⟩
        by_cases hq : q = p
        · subst hq; exact absurd h3 q119
        · omega
      · obtain rfl : p = (ktF (tI it) i (j + 1 - i) k (j - i) i) := by rw [← he]; exact (ktF_hit d0 p q119).symm
        refine j_aload_0 123 dX7_kth_122 rfl ?_
        refine j_iload 125 dX7_kth_123 rfl ?_
        refine j_aload_0 126 dX7_kth_125 rfl ?_
        refine j_get 129 0 gf_X7_19 dX7_kth_126 rfl rfl ?_
        refine j_iload 131 dX7_kth_129 rfl ?_
        refine j_iald 132 1 _ dX7_kth_131 rfl rfl rfl (by omega) ?_
        refine j_callV 135 Y_X7_tells [0] [_, _] (c_X7_tells E _ _ _ _ _ _ _ _ _ _ _ _ _ _ _ _ _ _ _ _ _ _ _ _ _) m_X7_tells wml_X7_72 dX7_kth_132 0 rfl rfl rfl rfl rfl rfl rfl rfl rfl (fun r N h => by obtain ⟨rfl, rfl⟩ := h; rfl) (fun r N h => ?_)
        obtain ⟨rfl, rfl⟩ := h
        exact j_iret dX7_kth_135 rfl rfl ⟨rfl, rfl⟩

set_option maxRecDepth 100000 in
set_option maxHeartbeats 4000000 in
theorem c_X7_kth_ok (E : jD) (fnd : Int) (ask : Int) (wd : Int) (mm : Int) (um : Int) (nd : Int) (m0 : Nat) (m1 : Nat) (m2 : Nat) (m3 : Nat) (m4 : Nat) (m5 : Nat) (m6 : Nat) (m7 : Nat) (m8 : Nat) (m9 : Nat) (m10 : Nat) (m11 : Nat) (m12 : Nat) (thr : Int) (pd : Int) (pal : Int) (it : Nat → Int32) (n i j : Nat) (k : Int) (hn : 0 ≤ (n : Int) ∧ (n : Int) ≤ 48) (hij : i ≤ j) (hj : j < n) (hk : 0 ≤ k ∧ k ≤ (j : Int) - i) (hx : ∃ q, i ≤ q ∧ q ≤ j ∧ rkF (tI it) q i (j + 1 - i) = k) : MC E Y_X7_kth [.ref m0, .int (iI (i : Int)), .int (iI (j : Int)), .int (iI k)] [(m0, jO 7 [.int (iI thr), .int (iI ask), .int (iI fnd), .ref m1, .ref m2, .ref m3, .int (iI (n : Int)), .int (iI wd), .ref m4, .ref m5, .int (iI mm), .ref m6, .ref m7, .int (iI um), .ref m8, .ref m9, .ref m10, .ref m11, .int (iI pd), .int (iI nd), .ref m12, .int (iI pal)]), (m4, jA E 48 it)] (fun rr N0 => rr = some (.int (iI (((ktF (tI it) i (j + 1 - i) k (j - i) i) : Nat)))) ∧ N0 = [(m0, jO 7 [.int (iI 0), .int (iI (it (ktF (tI it) i (j + 1 - i) k (j - i) i)).toInt), .int (iI fnd), .ref m1, .ref m2, .ref m3, .int (iI (n : Int)), .int (iI wd), .ref m4, .ref m5, .int (iI mm), .ref m6, .ref m7, .int (iI um), .ref m8, .ref m9, .ref m10, .ref m11, .int (iI pd), .int (iI nd), .ref m12, .int (iI pal)]), (m4, jA E 48 it)]) := by
  refine MC.of (by decide) rfl rfl ?_
  refine j_aload_0 1 dX7_kth_0 rfl ?_
  refine j_iconst 2 dX7_kth_1 ?_
  refine j_put 5 0 pf_X7_46 dX7_kth_2 rfl ⟨rfl, rfl, rfl⟩ ?_
  refine j_aload_0 6 dX7_kth_5 rfl ?_
  refine j_iload_1 7 dX7_kth_6 rfl ?_
  refine j_iload_2 8 dX7_kth_7 rfl ?_
  refine j_callVi 11 Y_X7_againstRun [0] [_, _] (c_X7_againstRun_ok E _ _ _ _ _ _ _ _ _ _ _ _ _ _ _ _ _ _ _ _ _ _ _ _ _ hn (by omega) (by omega)) m_X7_againstRun wml_X7_113 dX7_kth_8 0 rfl rfl rfl rfl rfl rfl rfl rfl rfl rfl ?_
  refine j_istore 13 (lv' := [(0, _), (1, _), (2, _), (3, _), (4, _)]) dX7_kth_11 rfl ⟨rfl, rfl⟩ ?_
  refine j_iload 15 dX7_kth_13 rfl ?_
  refine j_if_eq 21 18 dX7_kth_15 (by first | with_reducible exact iI_rng _ | with_reducible exact bI_r _ | exact ⟨by omega, by omega⟩) (fun q15 => ?_) (fun q15 => ?_)
  · refine j_iload_3 22 dX7_kth_21 rfl ?_
    refine j_iconst 23 dX7_kth_22 ?_
    refine j_iload_2 24 dX7_kth_23 rfl ?_
    refine j_iload_1 25 dX7_kth_24 rfl ?_
    refine j_isub 26 dX7_kth_25 ?_
    refine j_callSi 29 Y_X7_in [] [_, _, _] (c_X7_in E _ _ _ (by first | with_reducible assumption | with_reducible exact iI_rng _ | exact ⟨by omega, by omega⟩) (by first | with_reducible assumption | with_reducible exact iI_rng _ | exact ⟨by omega, by omega⟩) (by first | with_reducible assumption | with_reducible exact iI_rng _ | exact ⟨by omega, by omega⟩)) m_X7_in wml_X7_56 dX7_kth_26 rfl rfl rfl rfl rfl rfl rfl ?_
    refine j_bif_ne 38 32 dX7_kth_29 (fun q29 => ?_) (fun q29 => ?_)
    · refine j_iload_1 39 dX7_kth_38 rfl ?_
      refine j_istore 41 (lv' := [(0, _), (1, _), (2, _), (3, _), (4, _), (5, _)]) dX7_kth_39 rfl ⟨rfl, rfl⟩ ?_
      exact lp7_kth E fnd ask wd mm um nd m0 m1 m2 m3 m4 m5 m6 m7 m8 m9 m10 m11 m12 pd pal it n i j k hj (by omega) hij hk (j - i + 1) (j - i) i [] (by omega) (by omega) rfl hx (Or.inl rfl)
    · omega
  · omega

set_option maxRecDepth 100000 in
set_option maxHeartbeats 4000000 in
theorem c_X7_kth_bey (E : jD) (fnd : Int) (ask : Int) (wd : Int) (n : Int) (mm : Int) (um : Int) (nd : Int) (fm : Nat → Int) (m0 : Nat) (m1 : Nat) (m2 : Nat) (m3 : Nat) (m4 : Nat) (m5 : Nat) (m6 : Nat) (m7 : Nat) (m8 : Nat) (m9 : Nat) (m10 : Nat) (m11 : Nat) (m12 : Nat) (thr : Int) (pd : Int) (pal : Int) (i j : Nat) (k c : Int) (hn : 0 ≤ n ∧ n ≤ 48) (hij : i ≤ j) (hj : (j : Int) < n) (hk : jr k) (hc : (k < 0 ∨ (j : Int) - i < k) ∧ c = 2) : MC E Y_X7_kth [.ref m0, .int (iI (i : Int)), .int (iI (j : Int)), .int (iI k)] [(m0, jO 7 [.int (iI thr), .int (iI ask), .int (iI fnd), .ref m1, .ref m2, .ref m3, .int (iI n), .int (iI wd), .ref m4, .ref m5, .int (iI mm), .ref m6, .ref m7, .int (iI um), .ref m8, .ref m9, .ref m10, .ref m11, .int (iI pd), .int (iI nd), .ref m12, .int (iI pal)]), (m1, jA E 5 (aI fm))] (fun rr N0 => rr = some (.int (iI (rz c))) ∧ N0 = [(m0, jO 7 [.int (iI 0), .int (iI ask), .int (iI (rf c fnd)), .ref m1, .ref m2, .ref m3, .int (iI n), .int (iI wd), .ref m4, .ref m5, .int (iI mm), .ref m6, .ref m7, .int (iI um), .ref m8, .ref m9, .ref m10, .ref m11, .int (iI pd), .int (iI nd), .ref m12, .int (iI pal)]), (m1, jA E 5 (aI (rm c fm)))]) := by
  refine MC.of (by decide) rfl rfl ?_
  refine j_aload_0 1 dX7_kth_0 rfl ?_
  refine j_iconst 2 dX7_kth_1 ?_
  refine j_put 5 0 pf_X7_46 dX7_kth_2 rfl ⟨rfl, rfl, rfl⟩ ?_
  refine j_aload_0 6 dX7_kth_5 rfl ?_
  refine j_iload_1 7 dX7_kth_6 rfl ?_
  refine j_iload_2 8 dX7_kth_7 rfl ?_
  refine j_callVi 11 Y_X7_againstRun [0] [_, _] (c_X7_againstRun_ok E _ _ _ _ _ _ _ _ _ _ _ _ _ _ _ _ _ _ _ _ _ _ _ _ _ hn (by omega) (by omega)) m_X7_againstRun wml_X7_113 dX7_kth_8 0 rfl rfl rfl rfl rfl rfl rfl rfl rfl rfl ?_
  refine j_istore 13 (lv' := [(0, _), (1, _), (2, _), (3, _), (4, _)]) dX7_kth_11 rfl ⟨rfl, rfl⟩ ?_
  refine j_iload 15 dX7_kth_13 rfl ?_
  refine j_if_eq 21 18 dX7_kth_15 (by first | with_reducible exact iI_rng _ | with_reducible exact bI_r _ | exact ⟨by omega, by omega⟩) (fun q15 => ?_) (fun q15 => ?_)
  · refine j_iload_3 22 dX7_kth_21 rfl ?_
    refine j_iconst 23 dX7_kth_22 ?_
    refine j_iload_2 24 dX7_kth_23 rfl ?_
    refine j_iload_1 25 dX7_kth_24 rfl ?_
    refine j_isub 26 dX7_kth_25 ?_
    refine j_callSi 29 Y_X7_in [] [_, _, _] (c_X7_in E _ _ _ (by first | with_reducible assumption | with_reducible exact iI_rng _ | exact ⟨by omega, by omega⟩) (by first | with_reducible assumption | with_reducible exact iI_rng _ | exact ⟨by omega, by omega⟩) (by first | with_reducible assumption | with_reducible exact iI_rng _ | exact ⟨by omega, by omega⟩)) m_X7_in wml_X7_56 dX7_kth_26 rfl rfl rfl rfl rfl rfl rfl ?_
    refine j_bif_ne 38 32 dX7_kth_29 (fun q29 => ?_) (fun q29 => ?_)
    · omega
    · refine j_aload_0 33 dX7_kth_32 rfl ?_
      refine j_iconst 34 dX7_kth_33 ?_
      refine j_callV 37 Y_X7_found [0, 1] [_] (c_X7_found E _ _ _ _ _ _ _ _ _ _ _ _ _ _ _ _ _ _ _ _ _ _ _ _ 2 (by decide)) m_X7_found wml_X7_64 dX7_kth_34 0 rfl rfl rfl rfl rfl rfl rfl rfl rfl (fun r N h => by obtain ⟨rfl, rfl⟩ := h; rfl) (fun r N h => ?_)
      obtain ⟨rfl, rfl⟩ := h
      obtain rfl : c = 2 := by omega
      exact j_iret dX7_kth_37 rfl rfl ⟨rfl, rfl⟩
  · omega

set_option maxRecDepth 100000 in
set_option maxHeartbeats 4000000 in
theorem c_X7_above_bey (E : jD) (fnd : Int) (ask : Int) (wd : Int) (n : Int) (mm : Int) (um : Int) (nd : Int) (fm : Nat → Int) (m0 : Nat) (m1 : Nat) (m2 : Nat) (m3 : Nat) (m4 : Nat) (m5 : Nat) (m6 : Nat) (m7 : Nat) (m8 : Nat) (m9 : Nat) (m10 : Nat) (m11 : Nat) (m12 : Nat) (thr : Int) (pd : Int) (pal : Int) (i : Nat) (d c : Int) (hn : 0 ≤ n ∧ n ≤ 48) (hi : (i : Int) < n) (hd : jr d) (hc : d < 0 ∧ c = 2) : MC E Y_X7_above [.ref m0, .int (iI (i : Int)), .int (iI d)] [(m0, jO 7 [.int (iI thr), .int (iI ask), .int (iI fnd), .ref m1, .ref m2, .ref m3, .int (iI n), .int (iI wd), .ref m4, .ref m5, .int (iI mm), .ref m6, .ref m7, .int (iI um), .ref m8, .ref m9, .ref m10, .ref m11, .int (iI pd), .int (iI nd), .ref m12, .int (iI pal)]), (m1, jA E 5 (aI fm))] (fun rr N0 => rr = some (.int (iI (rz c))) ∧ N0 = [(m0, jO 7 [.int (iI 0), .int (iI ask), .int (iI (rf c fnd)), .ref m1, .ref m2, .ref m3, .int (iI n), .int (iI wd), .ref m4, .ref m5, .int (iI mm), .ref m6, .ref m7, .int (iI um), .ref m8, .ref m9, .ref m10, .ref m11, .int (iI pd), .int (iI nd), .ref m12, .int (iI pal)]), (m1, jA E 5 (aI (rm c fm)))]) := by
  refine MC.of (by decide) rfl rfl ?_
  refine j_aload_0 1 dX7_above_0 rfl ?_
  refine j_iconst 2 dX7_above_1 ?_
  refine j_put 5 0 pf_X7_46 dX7_above_2 rfl ⟨rfl, rfl, rfl⟩ ?_
  refine j_aload_0 6 dX7_above_5 rfl ?_
  refine j_iload_1 7 dX7_above_6 rfl ?_
  refine j_iload_1 8 dX7_above_7 rfl ?_
  refine j_callVi 11 Y_X7_againstRun [0] [_, _] (c_X7_againstRun_ok E _ _ _ _ _ _ _ _ _ _ _ _ _ _ _ _ _ _ _ _ _ _ _ _ _ hn (by omega) (by omega)) m_X7_againstRun wml_X7_113 dX7_above_8 0 rfl rfl rfl rfl rfl rfl rfl rfl rfl rfl ?_
  refine j_istore_3 12 (lv' := [(0, _), (1, _), (2, _), (3, _)]) dX7_above_11 rfl ⟨rfl, rfl⟩ ?_
  refine j_iload_3 13 dX7_above_12 rfl ?_
  refine j_if_eq 18 16 dX7_above_13 (by first | with_reducible exact iI_rng _ | with_reducible exact bI_r _ | exact ⟨by omega, by omega⟩) (fun q13 => ?_) (fun q13 => ?_)
  · refine j_iload_2 19 dX7_above_18 rfl ?_
    refine j_if_ge 28 22 dX7_above_19 (by first | with_reducible exact iI_rng _ | with_reducible exact bI_r _ | exact ⟨by omega, by omega⟩) (fun q19 => ?_) (fun q19 => ?_)
    · omega
    · refine j_aload_0 23 dX7_above_22 rfl ?_
      refine j_iconst 24 dX7_above_23 ?_
      refine j_callV 27 Y_X7_found [0, 1] [_] (c_X7_found E _ _ _ _ _ _ _ _ _ _ _ _ _ _ _ _ _ _ _ _ _ _ _ _ 2 (by decide)) m_X7_found wml_X7_64 dX7_above_24 0 rfl rfl rfl rfl rfl rfl rfl rfl rfl (fun r N h => by obtain ⟨rfl, rfl⟩ := h; rfl) (fun r N h => ?_)
      obtain ⟨rfl, rfl⟩ := h
      obtain rfl : c = 2 := by omega
      exact j_iret dX7_above_27 rfl rfl ⟨rfl, rfl⟩
  · omega

/-- up by the reference's parents -/
def amF (g : Nat → Int) (n : Nat) : Nat → Int → Int
  | 0, p => p
  | d + 1, p => if p = -9 then p else amF g n d (dmF g p.toNat n 0 (n - 1) (0, -9)).2

set_option maxRecDepth 100000 in
set_option maxHeartbeats 4000000 in
theorem lp7_above (E : jD) (fnd : Int) (ask : Int) (wd : Int) (mm : Int) (um : Int) (nd : Int) (m0 : Nat) (m1 : Nat) (m2 : Nat) (m3 : Nat) (m4 : Nat) (m5 : Nat) (m6 : Nat) (m7 : Nat) (m8 : Nat) (m9 : Nat) (m10 : Nat) (m11 : Nat) (m12 : Nat) (pd : Int) (it : Nat → Int32) (n i dd : Nat) (hn : n ≤ 48) (hd : (dd : Int) < 2147483648) (hdm : ∀ q, q < n → (dmF (tI it) q n 0 (n - 1) (0, -9)).2 = -9 ∨ (0 ≤ (dmF (tI it) q n 0 (n - 1) (0, -9)).2 ∧ (dmF (tI it) q n 0 (n - 1) (0, -9)).2 < n)) : ∀ (d : Nat) (d0 : Nat) (z pal : Int), d0 < d → (d0 ≤ dd) → (z = -9 ∨ (0 ≤ z ∧ z < n)) → (amF (tI it) n d0 z = amF (tI it) n dd (i : Int)) → J E Y_X7_above (jZm E Y_X7_above (fun rr N0 => ∃ pal2, rr = some (.int (iI (amF (tI it) n dd (i : Int)))) ∧ N0 = [(m0, jO 7 [.int (iI 0), .int (iI ask), .int (iI fnd), .ref m1, .ref m2, .ref m3, .int (iI (n : Int)), .int (iI wd), .ref m4, .ref m5, .int (iI mm), .ref m6, .ref m7, .int (iI um), .ref m8, .ref m9, .ref m10, .ref m11, .int (iI pd), .int (iI nd), .ref m12, .int (iI pal2)]), (m4, jA E 48 it)])) 0 0 34 [(0, .ref m0), (1, .int (iI (i : Int))), (2, .int (iI (dd : Int))), (3, .int (iI 0)), (4, .int (iI (z))), (5, .int (iI (((dd - d0 : Nat) : Int) : Int)))] [] [(m0, jO 7 [.int (iI 0), .int (iI ask), .int (iI fnd), .ref m1, .ref m2, .ref m3, .int (iI (n : Int)), .int (iI wd), .ref m4, .ref m5, .int (iI mm), .ref m6, .ref m7, .int (iI um), .ref m8, .ref m9, .ref m10, .ref m11, .int (iI pd), .int (iI nd), .ref m12, .int (iI pal)]), (m4, jA E 48 it)] := by
  intro d
  induction d with
  | zero => intros; omega
  | succ d ih =>
    intro d0 z pal hd hd0 hz he
    refine j_iload 36 dX7_above_34 rfl ?_
    refine j_iload_2 37 dX7_above_36 rfl ?_
    refine j_icmp_ge 66 40 dX7_above_37 (by first | with_reducible exact iI_rng _ | with_reducible exact bI_r _ | exact ⟨by omega, by omega⟩) (by first | with_reducible exact iI_rng _ | with_reducible exact bI_r _ | exact ⟨by omega, by omega⟩) (fun q37 => ?_) (fun q37 => ?_)
    · obtain rfl : d0 = 0 := by omega
      have e1 : z = amF (tI it) n dd (i : Int) := he
      subst e1
      refine j_iload 68 dX7_above_66 rfl ?_
      exact j_iret dX7_above_68 rfl rfl ⟨_, rfl, rfl⟩
    · obtain ⟨d0, rfl⟩ : ∃ q, d0 = q + 1 := ⟨d0 - 1, by omega⟩
      refine j_iload 42 dX7_above_40 rfl ?_
      refine j_bipush 44 dX7_above_42 (by decide +kernel) ?_
      refine j_icmp_eq 66 47 dX7_above_44 (by first | with_reducible exact iI_rng _ | with_reducible exact bI_r _ | exact ⟨by omega, by omega⟩) (by first | with_reducible exact iI_rng _ | with_reducible exact bI_r _ | exact ⟨by omega, by omega⟩) (fun q44 => ?_) (fun q44 => ?_)
      · have e1 : z = amF (tI it) n dd (i : Int) := he.symm.trans (if_pos q44) |>.symm
        subst e1
        refine j_iload 68 dX7_above_66 rfl ?_
        exact j_iret dX7_above_68 rfl rfl ⟨_, rfl, rfl⟩
      · obtain ⟨q, rfl⟩ : ∃ q : Nat, z = (q : Int) := ⟨z.toNat, by omega⟩
        rw [show amF (tI it) n (d0 + 1) (q : Int) = amF (tI it) n d0 (dmF (tI it) q n 0 (n - 1) (0, -9)).2 from if_neg q44] at he
        have hq := hdm q (by omega)
        refine j_aload_0 48 dX7_above_47 rfl ?_
        refine j_iload 50 dX7_above_48 rfl ?_
        refine j_callV 53 Y_X7_depthOf [0, 1] [_] (c_X7_depthOf E _ _ _ _ _ _ _ _ _ _ _ _ _ _ _ _ _ _ _ _ _ _ _ _ q (by omega) (by omega)) m_X7_depthOf wml_X7_131 dX7_above_50 0 rfl rfl rfl rfl rfl rfl rfl rfl rfl (fun r N h => by obtain ⟨rfl, rfl⟩ := h; rfl) (fun r N h => ?_)
        obtain ⟨rfl, rfl⟩ := h
        refine j_pop 54 dX7_above_53 rfl ?_
        refine j_aload_0 55 dX7_above_54 rfl ?_
        refine j_get 58 0 gf_X7_128 dX7_above_55 rfl rfl ?_
        refine j_istore 60 (lv' := [(0, _), (1, _), (2, _), (3, _), (4, _), (5, _)]) dX7_above_58 rfl ⟨rfl, rfl⟩ ?_
        refine j_iinc 63 (lv' := [(0, _), (1, _), (2, _), (3, _), (4, _), (5, _)]) dX7_above_60 rfl rfl ⟨rfl, rfl⟩ ?_
        refine j_goto 34 dX7_above_63 ?_
        have h := ih d0 _ (dmF (tI it) q n 0 (n - 1) (0, -9)).2 (by omega) (by omega) hq he
        rw [show ((dd - d0 : Nat) : Int) = ((dd - (d0 + 1) : Nat) : Int) + 1 by omega] at h
        exact h

set_option maxRecDepth 100000 in
set_option maxHeartbeats 4000000 in
theorem c_X7_above_ok (E : jD) (fnd : Int) (ask : Int) (wd : Int) (mm : Int) (um : Int) (nd : Int) (m0 : Nat) (m1 : Nat) (m2 : Nat) (m3 : Nat) (m4 : Nat) (m5 : Nat) (m6 : Nat) (m7 : Nat) (m8 : Nat) (m9 : Nat) (m10 : Nat) (m11 : Nat) (m12 : Nat) (thr : Int) (pd : Int) (pal : Int) (it : Nat → Int32) (n i dd : Nat) (hn : 0 ≤ (n : Int) ∧ (n : Int) ≤ 48) (hi : i < n) (hd : (dd : Int) < 2147483648) (hdm : ∀ q, q < n → (dmF (tI it) q n 0 (n - 1) (0, -9)).2 = -9 ∨ (0 ≤ (dmF (tI it) q n 0 (n - 1) (0, -9)).2 ∧ (dmF (tI it) q n 0 (n - 1) (0, -9)).2 < n)) : MC E Y_X7_above [.ref m0, .int (iI (i : Int)), .int (iI (dd : Int))] [(m0, jO 7 [.int (iI thr), .int (iI ask), .int (iI fnd), .ref m1, .ref m2, .ref m3, .int (iI (n : Int)), .int (iI wd), .ref m4, .ref m5, .int (iI mm), .ref m6, .ref m7, .int (iI um), .ref m8, .ref m9, .ref m10, .ref m11, .int (iI pd), .int (iI nd), .ref m12, .int (iI pal)]), (m4, jA E 48 it)] (fun rr N0 => ∃ pal2, rr = some (.int (iI (amF (tI it) n dd (i : Int)))) ∧ N0 = [(m0, jO 7 [.int (iI 0), .int (iI ask), .int (iI fnd), .ref m1, .ref m2, .ref m3, .int (iI (n : Int)), .int (iI wd), .ref m4, .ref m5, .int (iI mm), .ref m6, .ref m7, .int (iI um), .ref m8, .ref m9, .ref m10, .ref m11, .int (iI pd), .int (iI nd), .ref m12, .int (iI pal2)]), (m4, jA E 48 it)]) := by
  refine MC.of (by decide) rfl rfl ?_
  refine j_aload_0 1 dX7_above_0 rfl ?_
  refine j_iconst 2 dX7_above_1 ?_
  refine j_put 5 0 pf_X7_46 dX7_above_2 rfl ⟨rfl, rfl, rfl⟩ ?_
  refine j_aload_0 6 dX7_above_5 rfl ?_
  refine j_iload_1 7 dX7_above_6 rfl ?_
  refine j_iload_1 8 dX7_above_7 rfl ?_
  refine j_callVi 11 Y_X7_againstRun [0] [_, _] (c_X7_againstRun_ok E _ _ _ _ _ _ _ _ _ _ _ _ _ _ _ _ _ _ _ _ _ _ _ _ _ hn (by omega) (by omega)) m_X7_againstRun wml_X7_113 dX7_above_8 0 rfl rfl rfl rfl rfl rfl rfl rfl rfl rfl ?_
  refine j_istore_3 12 (lv' := [(0, _), (1, _), (2, _), (3, _)]) dX7_above_11 rfl ⟨rfl, rfl⟩ ?_
  refine j_iload_3 13 dX7_above_12 rfl ?_
  refine j_if_eq 18 16 dX7_above_13 (by first | with_reducible exact iI_rng _ | with_reducible exact bI_r _ | exact ⟨by omega, by omega⟩) (fun q13 => ?_) (fun q13 => ?_)
  · refine j_iload_2 19 dX7_above_18 rfl ?_
    refine j_if_ge 28 22 dX7_above_19 (by first | with_reducible exact iI_rng _ | with_reducible exact bI_r _ | exact ⟨by omega, by omega⟩) (fun q19 => ?_) (fun q19 => ?_)
    · refine j_iload_1 29 dX7_above_28 rfl ?_
      refine j_istore 31 (lv' := [(0, _), (1, _), (2, _), (3, _), (4, _)]) dX7_above_29 rfl ⟨rfl, rfl⟩ ?_
      refine j_iconst 32 dX7_above_31 ?_
      refine j_istore 34 (lv' := [(0, _), (1, _), (2, _), (3, _), (4, _), (5, _)]) dX7_above_32 rfl ⟨rfl, rfl⟩ ?_
      refine j_eqL (lv' := [(0, .ref m0), (1, .int (iI (i : Int))), (2, .int (iI (dd : Int))), (3, .int (iI 0)), (4, .int (iI ((i : Int)))), (5, .int (iI (((dd - dd : Nat) : Int) : Int)))]) (by rw [Nat.sub_self]; rfl) ?_
      exact lp7_above E fnd ask wd mm um nd m0 m1 m2 m3 m4 m5 m6 m7 m8 m9 m10 m11 m12 pd it n i dd (by omega) hd hdm (dd + 1) dd _ _ (by omega) (by omega) (by omega) rfl
    · omega
  · omega

set_option maxRecDepth 100000 in
set_option maxHeartbeats 4000000 in
theorem lp7_sum (E : jD) (fnd : Int) (ask : Int) (wd : Int) (mm : Int) (um : Int) (nd : Int) (m0 : Nat) (m1 : Nat) (m2 : Nat) (m3 : Nat) (m4 : Nat) (m5 : Nat) (m6 : Nat) (m7 : Nat) (m8 : Nat) (m9 : Nat) (m10 : Nat) (m11 : Nat) (m12 : Nat) (pd : Int) (pal : Int) (it : Nat → Int32) (n : Nat) (hn : n ≤ 48) : ∀ (d : Nat) (k : Nat), n - k < d → (k ≤ n) → J E Y_X7_sum (jZm E Y_X7_sum (fun rr N0 => rr = some (.long (suF (tI it) n n)) ∧ N0 = [(m0, jO 7 [.int (iI 0), .int (iI ask), .int (iI fnd), .ref m1, .ref m2, .ref m3, .int (iI (n : Int)), .int (iI wd), .ref m4, .ref m5, .int (iI mm), .ref m6, .ref m7, .int (iI um), .ref m8, .ref m9, .ref m10, .ref m11, .int (iI pd), .int (iI nd), .ref m12, .int (iI pal)]), (m4, jA E 48 it)])) 0 0 9 [(0, .ref m0), (1, .long (suF (tI it) n k)), (3, .int (iI (k : Int)))] [] [(m0, jO 7 [.int (iI 0), .int (iI ask), .int (iI fnd), .ref m1, .ref m2, .ref m3, .int (iI (n : Int)), .int (iI wd), .ref m4, .ref m5, .int (iI mm), .ref m6, .ref m7, .int (iI um), .ref m8, .ref m9, .ref m10, .ref m11, .int (iI pd), .int (iI nd), .ref m12, .int (iI pal)]), (m4, jA E 48 it)] := by
  intro d
  induction d with
  | zero => intros; omega
  | succ d ih =>
    intro k hd hk
    refine j_iload_3 10 dX7_sum_9 rfl ?_
    refine j_aload_0 11 dX7_sum_10 rfl ?_
    refine j_get 14 0 gf_X7_81 dX7_sum_11 rfl rfl ?_
    refine j_icmp_ge 40 17 dX7_sum_14 (by first | with_reducible exact iI_rng _ | with_reducible exact bI_r _ | exact ⟨by omega, by omega⟩) (by first | with_reducible exact iI_rng _ | with_reducible exact bI_r _ | exact ⟨by omega, by omega⟩) (fun q14 => ?_) (fun q14 => ?_)
    · have e0 : k = n := by omega
      subst e0
      refine j_lload_1 41 dX7_sum_40 rfl ?_
      exact j_lret dX7_sum_41 rfl rfl ⟨rfl, rfl⟩
    · refine j_lload_1 18 dX7_sum_17 rfl ?_
      refine j_aload_0 19 dX7_sum_18 rfl ?_
      refine j_get 22 0 gf_X7_19 dX7_sum_19 rfl rfl ?_
      refine j_iload_3 23 dX7_sum_22 rfl ?_
      refine j_iald 24 1 _ dX7_sum_23 rfl rfl rfl (by omega) ?_
      refine j_i2l 25 dX7_sum_24 ?_
      refine j_aload_0 26 dX7_sum_25 rfl ?_
      refine j_iload_3 27 dX7_sum_26 rfl ?_
      refine j_callVi 30 Y_X7_ownsOf [0, 1] [_] (c_X7_ownsOf E _ _ _ _ _ _ _ _ _ _ _ _ _ _ _ _ _ _ _ _ _ _ _ _ _ hn (by omega)) m_X7_ownsOf wml_X7_125 dX7_sum_27 0 rfl rfl rfl rfl rfl rfl rfl rfl rfl rfl ?_
      refine j_i2l 31 dX7_sum_30 ?_
      refine j_lmul 32 dX7_sum_31 ?_
      refine j_ladd 33 dX7_sum_32 ?_
      refine j_lstore_1 34 (lv' := [(0, _), (1, _), (3, _)]) dX7_sum_33 rfl ⟨rfl, rfl, rfl⟩ ?_
      refine j_iinc 37 (lv' := [(0, _), (1, _), (3, _)]) dX7_sum_34 rfl rfl ⟨rfl, rfl⟩ ?_
      refine j_goto 9 dX7_sum_37 ?_
      exact ih (k + 1) (by omega) (by omega)

set_option maxRecDepth 100000 in
set_option maxHeartbeats 4000000 in
theorem c_X7_sum (E : jD) (fnd : Int) (ask : Int) (wd : Int) (mm : Int) (um : Int) (nd : Int) (m0 : Nat) (m1 : Nat) (m2 : Nat) (m3 : Nat) (m4 : Nat) (m5 : Nat) (m6 : Nat) (m7 : Nat) (m8 : Nat) (m9 : Nat) (m10 : Nat) (m11 : Nat) (m12 : Nat) (thr : Int) (pd : Int) (pal : Int) (it : Nat → Int32) (n : Nat) (hn : n ≤ 48) : MC E Y_X7_sum [.ref m0] [(m0, jO 7 [.int (iI thr), .int (iI ask), .int (iI fnd), .ref m1, .ref m2, .ref m3, .int (iI (n : Int)), .int (iI wd), .ref m4, .ref m5, .int (iI mm), .ref m6, .ref m7, .int (iI um), .ref m8, .ref m9, .ref m10, .ref m11, .int (iI pd), .int (iI nd), .ref m12, .int (iI pal)]), (m4, jA E 48 it)] (fun rr N0 => rr = some (.long (suF (tI it) n n)) ∧ N0 = [(m0, jO 7 [.int (iI 0), .int (iI ask), .int (iI fnd), .ref m1, .ref m2, .ref m3, .int (iI (n : Int)), .int (iI wd), .ref m4, .ref m5, .int (iI mm), .ref m6, .ref m7, .int (iI um), .ref m8, .ref m9, .ref m10, .ref m11, .int (iI pd), .int (iI nd), .ref m12, .int (iI pal)]), (m4, jA E 48 it)]) := by
  refine MC.of (by decide) rfl rfl ?_
  refine j_aload_0 1 dX7_sum_0 rfl ?_
  refine j_iconst 2 dX7_sum_1 ?_
  refine j_put 5 0 pf_X7_46 dX7_sum_2 rfl ⟨rfl, rfl, rfl⟩ ?_
  refine j_lconst 6 0 dX7_sum_5 rfl ?_
  refine j_lstore_1 7 (lv' := [(0, _), (1, _)]) dX7_sum_6 rfl ⟨rfl, rfl, rfl⟩ ?_
  refine j_iconst 8 dX7_sum_7 ?_
  refine j_istore_3 9 (lv' := [(0, _), (1, _), (3, _)]) dX7_sum_8 rfl ⟨rfl, rfl⟩ ?_
  exact lp7_sum E fnd ask wd mm um nd m0 m1 m2 m3 m4 m5 m6 m7 m8 m9 m10 m11 m12 pd pal it n hn (n + 1) 0 (by omega) (by omega)

set_option maxRecDepth 100000 in
set_option maxHeartbeats 4000000 in
theorem c_X7_alike_no (E : jD) (fnd : Int) (ask : Int) (wd : Int) (n : Int) (mm : Int) (um : Int) (nd : Int) (fm : Nat → Int) (m0 : Nat) (m1 : Nat) (m2 : Nat) (m3 : Nat) (m4 : Nat) (m5 : Nat) (m6 : Nat) (m7 : Nat) (m8 : Nat) (m9 : Nat) (m10 : Nat) (m11 : Nat) (m12 : Nat) (thr : Int) (pd : Int) (pal : Int) (i j m c : Int) (hn : 0 ≤ n ∧ n ≤ 48) (hi : jr i) (hj : jr j) (hm : jr m) (hc : (n = 0 ∧ c = -2) ∨ (¬ n = 0 ∧ (i < 0 ∨ m < 0 ∨ n - i < m ∨ j < 0 ∨ n - j < m) ∧ c = 2)) : MC E Y_X7_alike [.ref m0, .int (iI i), .int (iI j), .int (iI m)] [(m0, jO 7 [.int (iI thr), .int (iI ask), .int (iI fnd), .ref m1, .ref m2, .ref m3, .int (iI n), .int (iI wd), .ref m4, .ref m5, .int (iI mm), .ref m6, .ref m7, .int (iI um), .ref m8, .ref m9, .ref m10, .ref m11, .int (iI pd), .int (iI nd), .ref m12, .int (iI pal)]), (m1, jA E 5 (aI fm))] (fun rr N0 => rr = some (.int (iI (rz c))) ∧ N0 = [(m0, jO 7 [.int (iI 0), .int (iI ask), .int (iI (rf c fnd)), .ref m1, .ref m2, .ref m3, .int (iI n), .int (iI wd), .ref m4, .ref m5, .int (iI mm), .ref m6, .ref m7, .int (iI um), .ref m8, .ref m9, .ref m10, .ref m11, .int (iI pd), .int (iI nd), .ref m12, .int (iI pal)]), (m1, jA E 5 (aI (rm c fm)))]) := by
  refine MC.of (by decide) rfl rfl ?_
  refine j_aload_0 1 dX7_alike_0 rfl ?_
  refine j_iconst 2 dX7_alike_1 ?_
  refine j_put 5 0 pf_X7_46 dX7_alike_2 rfl ⟨rfl, rfl, rfl⟩ ?_
  refine j_aload_0 6 dX7_alike_5 rfl ?_
  refine j_get 9 0 gf_X7_81 dX7_alike_6 rfl rfl ?_
  refine j_if_ne 15 12 dX7_alike_9 (by first | with_reducible exact iI_rng _ | with_reducible exact bI_r _ | exact ⟨by omega, by omega⟩) (fun q9 => ?_) (fun q9 => ?_)
  · refine j_iload_3 16 dX7_alike_15 rfl ?_
    refine j_if_lt 63 19 dX7_alike_16 (by first | with_reducible exact iI_rng _ | with_reducible exact bI_r _ | exact ⟨by omega, by omega⟩) (fun q16 => ?_) (fun q16 => ?_)
    · refine j_aload_0 64 dX7_alike_63 rfl ?_
      refine j_iconst 65 dX7_alike_64 ?_
      obtain rfl : c = 2 := by omega
      refine j_callV 68 Y_X7_found [0, 1] [_] (c_X7_found E _ _ _ _ _ _ _ _ _ _ _ _ _ _ _ _ _ _ _ _ _ _ _ _ 2 (by decide)) m_X7_found wml_X7_64 dX7_alike_65 0 rfl rfl rfl rfl rfl rfl rfl rfl rfl (fun r N h => by obtain ⟨rfl, rfl⟩ := h; rfl) (fun r N h => ?_)
      obtain ⟨rfl, rfl⟩ := h
      exact j_iret dX7_alike_68 rfl rfl ⟨rfl, rfl⟩
    · refine j_iload_1 20 dX7_alike_19 rfl ?_
      refine j_iconst 21 dX7_alike_20 ?_
      refine j_aload_0 22 dX7_alike_21 rfl ?_
      refine j_get 25 0 gf_X7_81 dX7_alike_22 rfl rfl ?_
      refine j_callSi 28 Y_X7_in [] [_, _, _] (c_X7_in E _ _ _ (by first | with_reducible assumption | with_reducible exact iI_rng _ | exact ⟨by omega, by omega⟩) (by first | with_reducible assumption | with_reducible exact iI_rng _ | exact ⟨by omega, by omega⟩) (by first | with_reducible assumption | with_reducible exact iI_rng _ | exact ⟨by omega, by omega⟩)) m_X7_in wml_X7_56 dX7_alike_25 rfl rfl rfl rfl rfl rfl rfl ?_
      refine j_bif_eq 63 31 dX7_alike_28 (fun q28 => ?_) (fun q28 => ?_)
      · refine j_aload_0 64 dX7_alike_63 rfl ?_
        refine j_iconst 65 dX7_alike_64 ?_
        obtain rfl : c = 2 := by omega
        refine j_callV 68 Y_X7_found [0, 1] [_] (c_X7_found E _ _ _ _ _ _ _ _ _ _ _ _ _ _ _ _ _ _ _ _ _ _ _ _ 2 (by decide)) m_X7_found wml_X7_64 dX7_alike_65 0 rfl rfl rfl rfl rfl rfl rfl rfl rfl (fun r N h => by obtain ⟨rfl, rfl⟩ := h; rfl) (fun r N h => ?_)
        obtain ⟨rfl, rfl⟩ := h
        exact j_iret dX7_alike_68 rfl rfl ⟨rfl, rfl⟩
      · refine j_iload_2 32 dX7_alike_31 rfl ?_
        refine j_iconst 33 dX7_alike_32 ?_
        refine j_aload_0 34 dX7_alike_33 rfl ?_
        refine j_get 37 0 gf_X7_81 dX7_alike_34 rfl rfl ?_
        refine j_callSi 40 Y_X7_in [] [_, _, _] (c_X7_in E _ _ _ (by first | with_reducible assumption | with_reducible exact iI_rng _ | exact ⟨by omega, by omega⟩) (by first | with_reducible assumption | with_reducible exact iI_rng _ | exact ⟨by omega, by omega⟩) (by first | with_reducible assumption | with_reducible exact iI_rng _ | exact ⟨by omega, by omega⟩)) m_X7_in wml_X7_56 dX7_alike_37 rfl rfl rfl rfl rfl rfl rfl ?_
        refine j_bif_eq 63 43 dX7_alike_40 (fun q40 => ?_) (fun q40 => ?_)
        · refine j_aload_0 64 dX7_alike_63 rfl ?_
          refine j_iconst 65 dX7_alike_64 ?_
          obtain rfl : c = 2 := by omega
          refine j_callV 68 Y_X7_found [0, 1] [_] (c_X7_found E _ _ _ _ _ _ _ _ _ _ _ _ _ _ _ _ _ _ _ _ _ _ _ _ 2 (by decide)) m_X7_found wml_X7_64 dX7_alike_65 0 rfl rfl rfl rfl rfl rfl rfl rfl rfl (fun r N h => by obtain ⟨rfl, rfl⟩ := h; rfl) (fun r N h => ?_)
          obtain ⟨rfl, rfl⟩ := h
          exact j_iret dX7_alike_68 rfl rfl ⟨rfl, rfl⟩
        · refine j_iload_3 44 dX7_alike_43 rfl ?_
          refine j_aload_0 45 dX7_alike_44 rfl ?_
          refine j_get 48 0 gf_X7_81 dX7_alike_45 rfl rfl ?_
          refine j_iload_1 49 dX7_alike_48 rfl ?_
          refine j_isub 50 dX7_alike_49 ?_
          refine j_icmp_gt 63 53 dX7_alike_50 (by first | with_reducible exact iI_rng _ | with_reducible exact bI_r _ | exact ⟨by omega, by omega⟩) (by first | with_reducible exact iI_rng _ | with_reducible exact bI_r _ | exact ⟨by omega, by omega⟩) (fun q50 => ?_) (fun q50 => ?_)
          · refine j_aload_0 64 dX7_alike_63 rfl ?_
            refine j_iconst 65 dX7_alike_64 ?_
            obtain rfl : c = 2 := by omega
            refine j_callV 68 Y_X7_found [0, 1] [_] (c_X7_found E _ _ _ _ _ _ _ _ _ _ _ _ _ _ _ _ _ _ _ _ _ _ _ _ 2 (by decide)) m_X7_found wml_X7_64 dX7_alike_65 0 rfl rfl rfl rfl rfl rfl rfl rfl rfl (fun r N h => by obtain ⟨rfl, rfl⟩ := h; rfl) (fun r N h => ?_)
            obtain ⟨rfl, rfl⟩ := h
            exact j_iret dX7_alike_68 rfl rfl ⟨rfl, rfl⟩
          · refine j_iload_3 54 dX7_alike_53 rfl ?_
            refine j_aload_0 55 dX7_alike_54 rfl ?_
            refine j_get 58 0 gf_X7_81 dX7_alike_55 rfl rfl ?_
            refine j_iload_2 59 dX7_alike_58 rfl ?_
            refine j_isub 60 dX7_alike_59 ?_
            refine j_icmp_le 69 63 dX7_alike_60 (by first | with_reducible exact iI_rng _ | with_reducible exact bI_r _ | exact ⟨by omega, by omega⟩) (by first | with_reducible exact iI_rng _ | with_reducible exact bI_r _ | exact ⟨by omega, by omega⟩) (fun q60 => ?_) (fun q60 => ?_)
            · omega
            · refine j_aload_0 64 dX7_alike_63 rfl ?_
              refine j_iconst 65 dX7_alike_64 ?_
              obtain rfl : c = 2 := by omega
              refine j_callV 68 Y_X7_found [0, 1] [_] (c_X7_found E _ _ _ _ _ _ _ _ _ _ _ _ _ _ _ _ _ _ _ _ _ _ _ _ 2 (by decide)) m_X7_found wml_X7_64 dX7_alike_65 0 rfl rfl rfl rfl rfl rfl rfl rfl rfl (fun r N h => by obtain ⟨rfl, rfl⟩ := h; rfl) (fun r N h => ?_)
              obtain ⟨rfl, rfl⟩ := h
              exact j_iret dX7_alike_68 rfl rfl ⟨rfl, rfl⟩
  · obtain rfl : c = -2 := by omega
    refine j_bipush 14 dX7_alike_12 (by decide +kernel) ?_
    exact j_iret dX7_alike_14 rfl rfl ⟨rfl, rfl⟩

theorem tkF_le (g : Nat → Int) (a c : Nat) : tkF g a c ≤ c := Nat.le_trans (tkN_le _ _) (shG_len g a c)

set_option maxRecDepth 100000 in
set_option maxHeartbeats 4000000 in
theorem lp7_alike (E : jD) (fnd : Int) (ask : Int) (wd : Int) (mm : Int) (um : Int) (nd : Int) (m0 : Nat) (m1 : Nat) (m2 : Nat) (m3 : Nat) (m4 : Nat) (m5 : Nat) (m6 : Nat) (m7 : Nat) (m8 : Nat) (m9 : Nat) (m10 : Nat) (m11 : Nat) (m12 : Nat) (pal : Int) (it : Nat → Int32) (n i j m : Nat) (hn : n ≤ 48) (hi : i + m ≤ n) (hj : j + m ≤ n) : ∀ (d : Nat) (k : Nat) (pd : Int) (pi : Nat → Int32), m - k < d → (k ≤ m) → (∀ q, q < k → tkF (tI it) i q = tkF (tI it) j q) → J E Y_X7_alike (jZm E Y_X7_alike (fun rr N0 => ∃ pd2 pi2, rr = some (.int (iI (bI (∀ k, k < m → tkF (tI it) i k = tkF (tI it) j k)))) ∧ N0 = [(m0, jO 7 [.int (iI 0), .int (iI ask), .int (iI fnd), .ref m1, .ref m2, .ref m3, .int (iI (n : Int)), .int (iI wd), .ref m4, .ref m5, .int (iI mm), .ref m6, .ref m7, .int (iI um), .ref m8, .ref m9, .ref m10, .ref m11, .int (iI pd2), .int (iI nd), .ref m12, .int (iI pal)]), (m4, jA E 48 it), (m11, jA E 48 pi2)])) 0 0 72 [(0, .ref m0), (1, .int (iI (i : Int))), (2, .int (iI (j : Int))), (3, .int (iI (m : Int))), (4, .int (iI (k : Int)))] [] [(m0, jO 7 [.int (iI 0), .int (iI ask), .int (iI fnd), .ref m1, .ref m2, .ref m3, .int (iI (n : Int)), .int (iI wd), .ref m4, .ref m5, .int (iI mm), .ref m6, .ref m7, .int (iI um), .ref m8, .ref m9, .ref m10, .ref m11, .int (iI pd), .int (iI nd), .ref m12, .int (iI pal)]), (m4, jA E 48 it), (m11, jA E 48 pi)] := by
  intro d
  induction d with
  | zero => intros; omega
  | succ d ih =>
    intro k pd pi hd hk he
    have ht1 := tkF_le (tI it) i k
    have ht2 := tkF_le (tI it) j k
    refine j_iload 74 dX7_alike_72 rfl ?_
    refine j_iload_3 75 dX7_alike_74 rfl ?_
    refine j_icmp_ge 103 78 dX7_alike_75 (by first | with_reducible exact iI_rng _ | with_reducible exact bI_r _ | exact ⟨by omega, by omega⟩) (by first | with_reducible exact iI_rng _ | with_reducible exact bI_r _ | exact ⟨by omega, by omega⟩) (fun q75 => ?_) (fun q75 => ?_)
    · have e0 : k = m := by omega
      subst e0
      refine j_iconst 104 dX7_alike_103 ?_
      exact j_iret dX7_alike_104 rfl rfl ⟨pd, pi, congrArg (fun z => some (Value.int (iI z))) (bI_t he).symm, rfl⟩
    · refine j_aload_0 79 dX7_alike_78 rfl ?_
      refine j_iload_1 80 dX7_alike_79 rfl ?_
      refine j_iload 82 dX7_alike_80 rfl ?_
      refine j_callV 85 Y_X7_takenOff [0, 1, 2] [_, _] (c_X7_takenOff E _ _ _ _ _ _ _ _ _ _ _ _ _ _ _ _ _ _ _ _ _ _ _ _ _ i k (by omega)) m_X7_takenOff wml_X7_134 dX7_alike_82 0 rfl rfl rfl rfl rfl rfl rfl rfl rfl (fun r N h => by obtain ⟨_, _, rfl, rfl⟩ := h; rfl) (fun r N h => ?_)
      obtain ⟨pd1, pi1, rfl, rfl⟩ := h
      refine j_eqM (M' := [(m0, jO 7 [.int (iI 0), .int (iI ask), .int (iI fnd), .ref m1, .ref m2, .ref m3, .int (iI (n : Int)), .int (iI wd), .ref m4, .ref m5, .int (iI mm), .ref m6, .ref m7, .int (iI um), .ref m8, .ref m9, .ref m10, .ref m11, .int (iI pd1), .int (iI nd), .ref m12, .int (iI pal)]), (m4, jA E 48 it), (m11, jA E 48 pi1)]) rfl ?_
      refine j_aload_0 86 dX7_alike_85 rfl ?_
      refine j_iload_2 87 dX7_alike_86 rfl ?_
      refine j_iload 89 dX7_alike_87 rfl ?_
      refine j_callV 92 Y_X7_takenOff [0, 1, 2] [_, _] (c_X7_takenOff E _ _ _ _ _ _ _ _ _ _ _ _ _ _ _ _ _ _ _ _ _ _ _ _ _ j k (by omega)) m_X7_takenOff wml_X7_134 dX7_alike_89 0 rfl rfl rfl rfl rfl rfl rfl rfl rfl (fun r N h => by obtain ⟨_, _, rfl, rfl⟩ := h; rfl) (fun r N h => ?_)
      obtain ⟨pd3, pi3, rfl, rfl⟩ := h
      refine j_eqM (M' := [(m0, jO 7 [.int (iI 0), .int (iI ask), .int (iI fnd), .ref m1, .ref m2, .ref m3, .int (iI (n : Int)), .int (iI wd), .ref m4, .ref m5, .int (iI mm), .ref m6, .ref m7, .int (iI um), .ref m8, .ref m9, .ref m10, .ref m11, .int (iI pd3), .int (iI nd), .ref m12, .int (iI pal)]), (m4, jA E 48 it), (m11, jA E 48 pi3)]) rfl ?_
      refine j_icmp_eq 97 95 dX7_alike_92 (jr_nat (by omega)) (jr_nat (by omega)) (fun q92 => ?_) (fun q92 => ?_)
      · refine j_iinc 100 (lv' := [(0, _), (1, _), (2, _), (3, _), (4, _)]) dX7_alike_97 rfl rfl ⟨rfl, rfl⟩ ?_
        refine j_goto 72 dX7_alike_100 ?_
        exact ih (k + 1) pd3 pi3 (by omega) (by omega) (fun q hq => by
          by_cases hqk : q = k
          · subst hqk; omega
          · exact he q (by omega))
      · refine j_iconst 96 dX7_alike_95 ?_
        exact j_iret dX7_alike_96 rfl rfl ⟨pd3, pi3, congrArg (fun z => some (Value.int (iI z))) (bI_f (fun z => q92 (by rw [z k (by omega)]))).symm, rfl⟩

set_option maxRecDepth 100000 in
set_option maxHeartbeats 4000000 in
theorem c_X7_alike_ok (E : jD) (fnd : Int) (ask : Int) (wd : Int) (mm : Int) (um : Int) (nd : Int) (m0 : Nat) (m1 : Nat) (m2 : Nat) (m3 : Nat) (m4 : Nat) (m5 : Nat) (m6 : Nat) (m7 : Nat) (m8 : Nat) (m9 : Nat) (m10 : Nat) (m11 : Nat) (m12 : Nat) (thr : Int) (pd : Int) (pal : Int) (it : Nat → Int32) (pi : Nat → Int32) (n i j m : Nat) (hn : 1 ≤ n ∧ n ≤ 48) (hi : i + m ≤ n) (hj : j + m ≤ n) : MC E Y_X7_alike [.ref m0, .int (iI (i : Int)), .int (iI (j : Int)), .int (iI (m : Int))] [(m0, jO 7 [.int (iI thr), .int (iI ask), .int (iI fnd), .ref m1, .ref m2, .ref m3, .int (iI (n : Int)), .int (iI wd), .ref m4, .ref m5, .int (iI mm), .ref m6, .ref m7, .int (iI um), .ref m8, .ref m9, .ref m10, .ref m11, .int (iI pd), .int (iI nd), .ref m12, .int (iI pal)]), (m4, jA E 48 it), (m11, jA E 48 pi)] (fun rr N0 => ∃ pd2 pi2, rr = some (.int (iI (bI (∀ k, k < m → tkF (tI it) i k = tkF (tI it) j k)))) ∧ N0 = [(m0, jO 7 [.int (iI 0), .int (iI ask), .int (iI fnd), .ref m1, .ref m2, .ref m3, .int (iI (n : Int)), .int (iI wd), .ref m4, .ref m5, .int (iI mm), .ref m6, .ref m7, .int (iI um), .ref m8, .ref m9, .ref m10, .ref m11, .int (iI pd2), .int (iI nd), .ref m12, .int (iI pal)]), (m4, jA E 48 it), (m11, jA E 48 pi2)]) := by
  refine MC.of (by decide) rfl rfl ?_
  refine j_aload_0 1 dX7_alike_0 rfl ?_
  refine j_iconst 2 dX7_alike_1 ?_
  refine j_put 5 0 pf_X7_46 dX7_alike_2 rfl ⟨rfl, rfl, rfl⟩ ?_
  refine j_aload_0 6 dX7_alike_5 rfl ?_
  refine j_get 9 0 gf_X7_81 dX7_alike_6 rfl rfl ?_
  refine j_if_ne 15 12 dX7_alike_9 (by first | with_reducible exact iI_rng _ | with_reducible exact bI_r _ | exact ⟨by omega, by omega⟩) (fun q9 => ?_) (fun q9 => ?_)
  · refine j_iload_3 16 dX7_alike_15 rfl ?_
    refine j_if_lt 63 19 dX7_alike_16 (by first | with_reducible exact iI_rng _ | with_reducible exact bI_r _ | exact ⟨by omega, by omega⟩) (fun q16 => ?_) (fun q16 => ?_)
    · omega
    · refine j_iload_1 20 dX7_alike_19 rfl ?_
      refine j_iconst 21 dX7_alike_20 ?_
      refine j_aload_0 22 dX7_alike_21 rfl ?_
      refine j_get 25 0 gf_X7_81 dX7_alike_22 rfl rfl ?_
      refine j_callSi 28 Y_X7_in [] [_, _, _] (c_X7_in E _ _ _ (by first | with_reducible assumption | with_reducible exact iI_rng _ | exact ⟨by omega, by omega⟩) (by first | with_reducible assumption | with_reducible exact iI_rng _ | exact ⟨by omega, by omega⟩) (by first | with_reducible assumption | with_reducible exact iI_rng _ | exact ⟨by omega, by omega⟩)) m_X7_in wml_X7_56 dX7_alike_25 rfl rfl rfl rfl rfl rfl rfl ?_
      refine j_bif_eq 63 31 dX7_alike_28 (fun q28 => ?_) (fun q28 => ?_)
      · omega
      · refine j_iload_2 32 dX7_alike_31 rfl ?_
        refine j_iconst 33 dX7_alike_32 ?_
        refine j_aload_0 34 dX7_alike_33 rfl ?_
        refine j_get 37 0 gf_X7_81 dX7_alike_34 rfl rfl ?_
        refine j_callSi 40 Y_X7_in [] [_, _, _] (c_X7_in E _ _ _ (by first | with_reducible assumption | with_reducible exact iI_rng _ | exact ⟨by omega, by omega⟩) (by first | with_reducible assumption | with_reducible exact iI_rng _ | exact ⟨by omega, by omega⟩) (by first | with_reducible assumption | with_reducible exact iI_rng _ | exact ⟨by omega, by omega⟩)) m_X7_in wml_X7_56 dX7_alike_37 rfl rfl rfl rfl rfl rfl rfl ?_
        refine j_bif_eq 63 43 dX7_alike_40 (fun q40 => ?_) (fun q40 => ?_)
        · omega
        · refine j_iload_3 44 dX7_alike_43 rfl ?_
          refine j_aload_0 45 dX7_alike_44 rfl ?_
          refine j_get 48 0 gf_X7_81 dX7_alike_45 rfl rfl ?_
          refine j_iload_1 49 dX7_alike_48 rfl ?_
          refine j_isub 50 dX7_alike_49 ?_
          refine j_icmp_gt 63 53 dX7_alike_50 (by first | with_reducible exact iI_rng _ | with_reducible exact bI_r _ | exact ⟨by omega, by omega⟩) (by first | with_reducible exact iI_rng _ | with_reducible exact bI_r _ | exact ⟨by omega, by omega⟩) (fun q50 => ?_) (fun q50 => ?_)
          · omega
          · refine j_iload_3 54 dX7_alike_53 rfl ?_
            refine j_aload_0 55 dX7_alike_54 rfl ?_
            refine j_get 58 0 gf_X7_81 dX7_alike_55 rfl rfl ?_
            refine j_iload_2 59 dX7_alike_58 rfl ?_
            refine j_isub 60 dX7_alike_59 ?_
            refine j_icmp_le 69 63 dX7_alike_60 (by first | with_reducible exact iI_rng _ | with_reducible exact bI_r _ | exact ⟨by omega, by omega⟩) (by first | with_reducible exact iI_rng _ | with_reducible exact bI_r _ | exact ⟨by omega, by omega⟩) (fun q60 => ?_) (fun q60 => ?_)
            · refine j_iconst 70 dX7_alike_69 ?_
              refine j_istore 72 (lv' := [(0, _), (1, _), (2, _), (3, _), (4, _)]) dX7_alike_70 rfl ⟨rfl, rfl⟩ ?_
              exact lp7_alike E fnd ask wd mm um nd m0 m1 m2 m3 m4 m5 m6 m7 m8 m9 m10 m11 m12 pal it n i j m (by omega) hi hj (m + 1) 0 pd pi (by omega) (by omega) (fun q hq => by omega)
            · omega
  · omega
