def cmF (n wd nb un lv mm bi um rw nd : Int) : Nat → Int
  | 0 => n | 1 => wd | 2 => nb | 3 => un | 4 => lv | 5 => mm | 6 => bi | 7 => um | 8 => rw | _ => nd

set_option maxRecDepth 100000 in
set_option maxHeartbeats 4000000 in
theorem c_X7_countOf_0 (E : jD) (fnd : Int) (ask : Int) (mm : Int) (um : Int) (nd : Int) (m0 : Nat) (m1 : Nat) (m2 : Nat) (m3 : Nat) (m4 : Nat) (m5 : Nat) (m6 : Nat) (m7 : Nat) (m8 : Nat) (m9 : Nat) (m10 : Nat) (m11 : Nat) (m12 : Nat) (thr : Int) (pd : Int) (pal : Int) (rn : Nat → Int) (rw0 : Nat → Int32) (it : Nat → Int32) (pi : Nat → Int32) (n wd : Nat) (hnw : (n = 0 ∧ wd = 0) ∨ (1 ≤ wd ∧ wd ≤ 6 ∧ n ≤ 48)) (hnr : ∀ r, r < 4 → -1 ≤ rn r ∧ rn r ≤ 48) : MC E Y_X7_countOf [.ref m0, .int (iI (((0 : Nat) : Int)))] [(m0, jO 7 [.int (iI thr), .int (iI ask), .int (iI fnd), .ref m1, .ref m2, .ref m3, .int (iI (n : Int)), .int (iI (wd : Int)), .ref m4, .ref m5, .int (iI mm), .ref m6, .ref m7, .int (iI um), .ref m8, .ref m9, .ref m10, .ref m11, .int (iI pd), .int (iI nd), .ref m12, .int (iI pal)]), (m2, jA E 192 rw0), (m3, jA E 4 (aI rn)), (m4, jA E 48 it), (m11, jA E 48 pi)] (fun rr N0 => ∃ pd2 pi2, rr = some (.int (iI (n : Int))) ∧ N0 = [(m0, jO 7 [.int (iI thr), .int (iI ask), .int (iI fnd), .ref m1, .ref m2, .ref m3, .int (iI (n : Int)), .int (iI (wd : Int)), .ref m4, .ref m5, .int (iI mm), .ref m6, .ref m7, .int (iI um), .ref m8, .ref m9, .ref m10, .ref m11, .int (iI pd2), .int (iI nd), .ref m12, .int (iI pal)]), (m2, jA E 192 rw0), (m3, jA E 4 (aI rn)), (m4, jA E 48 it), (m11, jA E 48 pi2)]) := by
  refine MC.of (by decide) rfl rfl ?_
  refine j_iload_1 1 dX7_countOf_0 rfl ?_
  refine j_iconst 2 dX7_countOf_1 ?_
  refine j_icmp_ge 45 5 dX7_countOf_2 (by first | with_reducible exact iI_rng _ | with_reducible exact bI_r _ | exact ⟨by omega, by omega⟩) (by first | with_reducible exact iI_rng _ | with_reducible exact bI_r _ | exact ⟨by omega, by omega⟩) (fun q2 => ?_) (fun q2 => ?_)
  · omega
  · refine j_iload_1 6 dX7_countOf_5 rfl ?_
    refine j_if_ne 16 9 dX7_countOf_6 (by first | with_reducible exact iI_rng _ | with_reducible exact bI_r _ | exact ⟨by omega, by omega⟩) (fun q6 => ?_) (fun q6 => ?_)
    · omega
    · refine j_aload_0 10 dX7_countOf_9 rfl ?_
      refine j_get 13 0 gf_X7_81 dX7_countOf_10 rfl rfl ?_
      refine j_goto 44 dX7_countOf_13 ?_
      exact j_iret dX7_countOf_44 rfl rfl ⟨pd, pi, rfl, rfl⟩

set_option maxRecDepth 100000 in
set_option maxHeartbeats 4000000 in
theorem c_X7_countOf_1 (E : jD) (fnd : Int) (ask : Int) (mm : Int) (um : Int) (nd : Int) (m0 : Nat) (m1 : Nat) (m2 : Nat) (m3 : Nat) (m4 : Nat) (m5 : Nat) (m6 : Nat) (m7 : Nat) (m8 : Nat) (m9 : Nat) (m10 : Nat) (m11 : Nat) (m12 : Nat) (thr : Int) (pd : Int) (pal : Int) (rn : Nat → Int) (rw0 : Nat → Int32) (it : Nat → Int32) (pi : Nat → Int32) (n wd : Nat) (hnw : (n = 0 ∧ wd = 0) ∨ (1 ≤ wd ∧ wd ≤ 6 ∧ n ≤ 48)) (hnr : ∀ r, r < 4 → -1 ≤ rn r ∧ rn r ≤ 48) : MC E Y_X7_countOf [.ref m0, .int (iI (((1 : Nat) : Int)))] [(m0, jO 7 [.int (iI thr), .int (iI ask), .int (iI fnd), .ref m1, .ref m2, .ref m3, .int (iI (n : Int)), .int (iI (wd : Int)), .ref m4, .ref m5, .int (iI mm), .ref m6, .ref m7, .int (iI um), .ref m8, .ref m9, .ref m10, .ref m11, .int (iI pd), .int (iI nd), .ref m12, .int (iI pal)]), (m2, jA E 192 rw0), (m3, jA E 4 (aI rn)), (m4, jA E 48 it), (m11, jA E 48 pi)] (fun rr N0 => ∃ pd2 pi2, rr = some (.int (iI (wd : Int))) ∧ N0 = [(m0, jO 7 [.int (iI thr), .int (iI ask), .int (iI fnd), .ref m1, .ref m2, .ref m3, .int (iI (n : Int)), .int (iI (wd : Int)), .ref m4, .ref m5, .int (iI mm), .ref m6, .ref m7, .int (iI um), .ref m8, .ref m9, .ref m10, .ref m11, .int (iI pd2), .int (iI nd), .ref m12, .int (iI pal)]), (m2, jA E 192 rw0), (m3, jA E 4 (aI rn)), (m4, jA E 48 it), (m11, jA E 48 pi2)]) := by
  refine MC.of (by decide) rfl rfl ?_
  refine j_iload_1 1 dX7_countOf_0 rfl ?_
  refine j_iconst 2 dX7_countOf_1 ?_
  refine j_icmp_ge 45 5 dX7_countOf_2 (by first | with_reducible exact iI_rng _ | with_reducible exact bI_r _ | exact ⟨by omega, by omega⟩) (by first | with_reducible exact iI_rng _ | with_reducible exact bI_r _ | exact ⟨by omega, by omega⟩) (fun q2 => ?_) (fun q2 => ?_)
  · omega
  · refine j_iload_1 6 dX7_countOf_5 rfl ?_
    refine j_if_ne 16 9 dX7_countOf_6 (by first | with_reducible exact iI_rng _ | with_reducible exact bI_r _ | exact ⟨by omega, by omega⟩) (fun q6 => ?_) (fun q6 => ?_)
    · refine j_iload_1 17 dX7_countOf_16 rfl ?_
      refine j_iconst 18 dX7_countOf_17 ?_
      refine j_icmp_ne 28 21 dX7_countOf_18 (by first | with_reducible exact iI_rng _ | with_reducible exact bI_r _ | exact ⟨by omega, by omega⟩) (by first | with_reducible exact iI_rng _ | with_reducible exact bI_r _ | exact ⟨by omega, by omega⟩) (fun q18 => ?_) (fun q18 => ?_)
      · omega
      · refine j_aload_0 22 dX7_countOf_21 rfl ?_
        refine j_get 25 0 gf_X7_78 dX7_countOf_22 rfl rfl ?_
        refine j_goto 44 dX7_countOf_25 ?_
        exact j_iret dX7_countOf_44 rfl rfl ⟨pd, pi, rfl, rfl⟩
    · omega

set_option maxRecDepth 100000 in
set_option maxHeartbeats 4000000 in
theorem c_X7_countOf_2 (E : jD) (fnd : Int) (ask : Int) (mm : Int) (um : Int) (nd : Int) (m0 : Nat) (m1 : Nat) (m2 : Nat) (m3 : Nat) (m4 : Nat) (m5 : Nat) (m6 : Nat) (m7 : Nat) (m8 : Nat) (m9 : Nat) (m10 : Nat) (m11 : Nat) (m12 : Nat) (thr : Int) (pd : Int) (pal : Int) (rn : Nat → Int) (rw0 : Nat → Int32) (it : Nat → Int32) (pi : Nat → Int32) (n wd : Nat) (hnw : (n = 0 ∧ wd = 0) ∨ (1 ≤ wd ∧ wd ≤ 6 ∧ n ≤ 48)) (hnr : ∀ r, r < 4 → -1 ≤ rn r ∧ rn r ≤ 48) : MC E Y_X7_countOf [.ref m0, .int (iI (((2 : Nat) : Int)))] [(m0, jO 7 [.int (iI thr), .int (iI ask), .int (iI fnd), .ref m1, .ref m2, .ref m3, .int (iI (n : Int)), .int (iI (wd : Int)), .ref m4, .ref m5, .int (iI mm), .ref m6, .ref m7, .int (iI um), .ref m8, .ref m9, .ref m10, .ref m11, .int (iI pd), .int (iI nd), .ref m12, .int (iI pal)]), (m2, jA E 192 rw0), (m3, jA E 4 (aI rn)), (m4, jA E 48 it), (m11, jA E 48 pi)] (fun rr N0 => ∃ pd2 pi2, rr = some (.int (iI ((nB n wd : Nat) : Int))) ∧ N0 = [(m0, jO 7 [.int (iI thr), .int (iI ask), .int (iI fnd), .ref m1, .ref m2, .ref m3, .int (iI (n : Int)), .int (iI (wd : Int)), .ref m4, .ref m5, .int (iI mm), .ref m6, .ref m7, .int (iI um), .ref m8, .ref m9, .ref m10, .ref m11, .int (iI pd2), .int (iI nd), .ref m12, .int (iI pal)]), (m2, jA E 192 rw0), (m3, jA E 4 (aI rn)), (m4, jA E 48 it), (m11, jA E 48 pi2)]) := by
  refine MC.of (by decide) rfl rfl ?_
  refine j_iload_1 1 dX7_countOf_0 rfl ?_
  refine j_iconst 2 dX7_countOf_1 ?_
  refine j_icmp_ge 45 5 dX7_countOf_2 (by first | with_reducible exact iI_rng _ | with_reducible exact bI_r _ | exact ⟨by omega, by omega⟩) (by first | with_reducible exact iI_rng _ | with_reducible exact bI_r _ | exact ⟨by omega, by omega⟩) (fun q2 => ?_) (fun q2 => ?_)
  · omega
  · refine j_iload_1 6 dX7_countOf_5 rfl ?_
    refine j_if_ne 16 9 dX7_countOf_6 (by first | with_reducible exact iI_rng _ | with_reducible exact bI_r _ | exact ⟨by omega, by omega⟩) (fun q6 => ?_) (fun q6 => ?_)
    · refine j_iload_1 17 dX7_countOf_16 rfl ?_
      refine j_iconst 18 dX7_countOf_17 ?_
      refine j_icmp_ne 28 21 dX7_countOf_18 (by first | with_reducible exact iI_rng _ | with_reducible exact bI_r _ | exact ⟨by omega, by omega⟩) (by first | with_reducible exact iI_rng _ | with_reducible exact bI_r _ | exact ⟨by omega, by omega⟩) (fun q18 => ?_) (fun q18 => ?_)
      · refine j_iload_1 29 dX7_countOf_28 rfl ?_
        refine j_iconst 30 dX7_countOf_29 ?_
        refine j_icmp_ne 40 33 dX7_countOf_30 (by first | with_reducible exact iI_rng _ | with_reducible exact bI_r _ | exact ⟨by omega, by omega⟩) (by first | with_reducible exact iI_rng _ | with_reducible exact bI_r _ | exact ⟨by omega, by omega⟩) (fun q30 => ?_) (fun q30 => ?_)
        · omega
        · refine j_aload_0 34 dX7_countOf_33 rfl ?_
          refine j_callVi 37 Y_X7_blocks [0] [] (c_X7_blocks E _ _ _ _ _ _ _ _ _ _ _ _ _ _ _ _ _ _ _ _ _ n wd hnw) m_X7_blocks wml_X7_99 dX7_countOf_34 0 rfl rfl rfl rfl rfl rfl rfl rfl rfl rfl ?_
          refine j_goto 44 dX7_countOf_37 ?_
          exact j_iret dX7_countOf_44 rfl rfl ⟨pd, pi, rfl, rfl⟩
      · omega
    · omega

set_option maxRecDepth 100000 in
set_option maxHeartbeats 4000000 in
theorem c_X7_countOf_3 (E : jD) (fnd : Int) (ask : Int) (mm : Int) (um : Int) (nd : Int) (m0 : Nat) (m1 : Nat) (m2 : Nat) (m3 : Nat) (m4 : Nat) (m5 : Nat) (m6 : Nat) (m7 : Nat) (m8 : Nat) (m9 : Nat) (m10 : Nat) (m11 : Nat) (m12 : Nat) (thr : Int) (pd : Int) (pal : Int) (rn : Nat → Int) (rw0 : Nat → Int32) (it : Nat → Int32) (pi : Nat → Int32) (n wd : Nat) (hnw : (n = 0 ∧ wd = 0) ∨ (1 ≤ wd ∧ wd ≤ 6 ∧ n ≤ 48)) (hnr : ∀ r, r < 4 → -1 ≤ rn r ∧ rn r ≤ 48) : MC E Y_X7_countOf [.ref m0, .int (iI (((3 : Nat) : Int)))] [(m0, jO 7 [.int (iI thr), .int (iI ask), .int (iI fnd), .ref m1, .ref m2, .ref m3, .int (iI (n : Int)), .int (iI (wd : Int)), .ref m4, .ref m5, .int (iI mm), .ref m6, .ref m7, .int (iI um), .ref m8, .ref m9, .ref m10, .ref m11, .int (iI pd), .int (iI nd), .ref m12, .int (iI pal)]), (m2, jA E 192 rw0), (m3, jA E 4 (aI rn)), (m4, jA E 48 it), (m11, jA E 48 pi)] (fun rr N0 => ∃ pd2 pi2, rr = some (.int (iI ((unF (fun b => ((shB (tI it) n wd b : Nat) : Int)) (nB n wd) : Nat) : Int))) ∧ N0 = [(m0, jO 7 [.int (iI thr), .int (iI ask), .int (iI fnd), .ref m1, .ref m2, .ref m3, .int (iI (n : Int)), .int (iI (wd : Int)), .ref m4, .ref m5, .int (iI mm), .ref m6, .ref m7, .int (iI um), .ref m8, .ref m9, .ref m10, .ref m11, .int (iI pd2), .int (iI nd), .ref m12, .int (iI pal)]), (m2, jA E 192 rw0), (m3, jA E 4 (aI rn)), (m4, jA E 48 it), (m11, jA E 48 pi2)]) := by
  refine MC.of (by decide) rfl rfl ?_
  refine j_iload_1 1 dX7_countOf_0 rfl ?_
  refine j_iconst 2 dX7_countOf_1 ?_
  refine j_icmp_ge 45 5 dX7_countOf_2 (by first | with_reducible exact iI_rng _ | with_reducible exact bI_r _ | exact ⟨by omega, by omega⟩) (by first | with_reducible exact iI_rng _ | with_reducible exact bI_r _ | exact ⟨by omega, by omega⟩) (fun q2 => ?_) (fun q2 => ?_)
  · omega
  · refine j_iload_1 6 dX7_countOf_5 rfl ?_
    refine j_if_ne 16 9 dX7_countOf_6 (by first | with_reducible exact iI_rng _ | with_reducible exact bI_r _ | exact ⟨by omega, by omega⟩) (fun q6 => ?_) (fun q6 => ?_)
    · refine j_iload_1 17 dX7_countOf_16 rfl ?_
      refine j_iconst 18 dX7_countOf_17 ?_
      refine j_icmp_ne 28 21 dX7_countOf_18 (by first | with_reducible exact iI_rng _ | with_reducible exact bI_r _ | exact ⟨by omega, by omega⟩) (by first | with_reducible exact iI_rng _ | with_reducible exact bI_r _ | exact ⟨by omega, by omega⟩) (fun q18 => ?_) (fun q18 => ?_)
      · refine j_iload_1 29 dX7_countOf_28 rfl ?_
        refine j_iconst 30 dX7_countOf_29 ?_
        refine j_icmp_ne 40 33 dX7_countOf_30 (by first | with_reducible exact iI_rng _ | with_reducible exact bI_r _ | exact ⟨by omega, by omega⟩) (by first | with_reducible exact iI_rng _ | with_reducible exact bI_r _ | exact ⟨by omega, by omega⟩) (fun q30 => ?_) (fun q30 => ?_)
        · refine j_aload_0 41 dX7_countOf_40 rfl ?_
          refine j_callV 44 Y_X7_shapesNow [0, 3, 4] [] (c_X7_shapesNow E _ _ _ _ _ _ _ _ _ _ _ _ _ _ _ _ _ _ _ _ _ _ _ n wd hnw) m_X7_shapesNow wml_X7_168 dX7_countOf_41 0 rfl rfl rfl rfl rfl rfl rfl rfl rfl (fun r N h => by obtain ⟨_, _, rfl, rfl⟩ := h; rfl) (fun r N h => ?_)
          obtain ⟨pd2, pi2, rfl, rfl⟩ := h
          exact j_iret dX7_countOf_44 rfl rfl ⟨pd2, pi2, rfl, rfl⟩
        · omega
      · omega
    · omega

set_option maxRecDepth 100000 in
set_option maxHeartbeats 4000000 in
theorem c_X7_countOf_4 (E : jD) (fnd : Int) (ask : Int) (mm : Int) (um : Int) (nd : Int) (m0 : Nat) (m1 : Nat) (m2 : Nat) (m3 : Nat) (m4 : Nat) (m5 : Nat) (m6 : Nat) (m7 : Nat) (m8 : Nat) (m9 : Nat) (m10 : Nat) (m11 : Nat) (m12 : Nat) (thr : Int) (pd : Int) (pal : Int) (rn : Nat → Int) (rw0 : Nat → Int32) (it : Nat → Int32) (pi : Nat → Int32) (n wd : Nat) (hnw : (n = 0 ∧ wd = 0) ∨ (1 ≤ wd ∧ wd ≤ 6 ∧ n ≤ 48)) (hnr : ∀ r, r < 4 → -1 ≤ rn r ∧ rn r ≤ 48) : MC E Y_X7_countOf [.ref m0, .int (iI (((4 : Nat) : Int)))] [(m0, jO 7 [.int (iI thr), .int (iI ask), .int (iI fnd), .ref m1, .ref m2, .ref m3, .int (iI (n : Int)), .int (iI (wd : Int)), .ref m4, .ref m5, .int (iI mm), .ref m6, .ref m7, .int (iI um), .ref m8, .ref m9, .ref m10, .ref m11, .int (iI pd), .int (iI nd), .ref m12, .int (iI pal)]), (m2, jA E 192 rw0), (m3, jA E 4 (aI rn)), (m4, jA E 48 it), (m11, jA E 48 pi)] (fun rr N0 => ∃ pd2 pi2, rr = some (.int (iI ((lvF (nB n wd) 7 1 : Nat) : Int))) ∧ N0 = [(m0, jO 7 [.int (iI thr), .int (iI ask), .int (iI fnd), .ref m1, .ref m2, .ref m3, .int (iI (n : Int)), .int (iI (wd : Int)), .ref m4, .ref m5, .int (iI mm), .ref m6, .ref m7, .int (iI um), .ref m8, .ref m9, .ref m10, .ref m11, .int (iI pd2), .int (iI nd), .ref m12, .int (iI pal)]), (m2, jA E 192 rw0), (m3, jA E 4 (aI rn)), (m4, jA E 48 it), (m11, jA E 48 pi2)]) := by
  refine MC.of (by decide) rfl rfl ?_
  refine j_iload_1 1 dX7_countOf_0 rfl ?_
  refine j_iconst 2 dX7_countOf_1 ?_
  refine j_icmp_ge 45 5 dX7_countOf_2 (by first | with_reducible exact iI_rng _ | with_reducible exact bI_r _ | exact ⟨by omega, by omega⟩) (by first | with_reducible exact iI_rng _ | with_reducible exact bI_r _ | exact ⟨by omega, by omega⟩) (fun q2 => ?_) (fun q2 => ?_)
  · refine j_iload_1 46 dX7_countOf_45 rfl ?_
    refine j_bipush 48 dX7_countOf_46 (by decide +kernel) ?_
    refine j_icmp_ge 80 51 dX7_countOf_48 (by first | with_reducible exact iI_rng _ | with_reducible exact bI_r _ | exact ⟨by omega, by omega⟩) (by first | with_reducible exact iI_rng _ | with_reducible exact bI_r _ | exact ⟨by omega, by omega⟩) (fun q48 => ?_) (fun q48 => ?_)
    · omega
    · refine j_iload_1 52 dX7_countOf_51 rfl ?_
      refine j_iconst 53 dX7_countOf_52 ?_
      refine j_icmp_ne 63 56 dX7_countOf_53 (by first | with_reducible exact iI_rng _ | with_reducible exact bI_r _ | exact ⟨by omega, by omega⟩) (by first | with_reducible exact iI_rng _ | with_reducible exact bI_r _ | exact ⟨by omega, by omega⟩) (fun q53 => ?_) (fun q53 => ?_)
      · omega
      · refine j_aload_0 57 dX7_countOf_56 rfl ?_
        refine j_callVi 60 Y_X7_levels [0] [] (c_X7_levels E _ _ _ _ _ _ _ _ _ _ _ _ _ _ _ _ _ _ _ _ _ n wd hnw) m_X7_levels wml_X7_171 dX7_countOf_57 0 rfl rfl rfl rfl rfl rfl rfl rfl rfl rfl ?_
        refine j_goto 79 dX7_countOf_60 ?_
        exact j_iret dX7_countOf_79 rfl rfl ⟨pd, pi, rfl, rfl⟩
  · omega

set_option maxRecDepth 100000 in
set_option maxHeartbeats 4000000 in
theorem c_X7_countOf_5 (E : jD) (fnd : Int) (ask : Int) (mm : Int) (um : Int) (nd : Int) (m0 : Nat) (m1 : Nat) (m2 : Nat) (m3 : Nat) (m4 : Nat) (m5 : Nat) (m6 : Nat) (m7 : Nat) (m8 : Nat) (m9 : Nat) (m10 : Nat) (m11 : Nat) (m12 : Nat) (thr : Int) (pd : Int) (pal : Int) (rn : Nat → Int) (rw0 : Nat → Int32) (it : Nat → Int32) (pi : Nat → Int32) (n wd : Nat) (hnw : (n = 0 ∧ wd = 0) ∨ (1 ≤ wd ∧ wd ≤ 6 ∧ n ≤ 48)) (hnr : ∀ r, r < 4 → -1 ≤ rn r ∧ rn r ≤ 48) : MC E Y_X7_countOf [.ref m0, .int (iI (((5 : Nat) : Int)))] [(m0, jO 7 [.int (iI thr), .int (iI ask), .int (iI fnd), .ref m1, .ref m2, .ref m3, .int (iI (n : Int)), .int (iI (wd : Int)), .ref m4, .ref m5, .int (iI mm), .ref m6, .ref m7, .int (iI um), .ref m8, .ref m9, .ref m10, .ref m11, .int (iI pd), .int (iI nd), .ref m12, .int (iI pal)]), (m2, jA E 192 rw0), (m3, jA E 4 (aI rn)), (m4, jA E 48 it), (m11, jA E 48 pi)] (fun rr N0 => ∃ pd2 pi2, rr = some (.int (iI mm)) ∧ N0 = [(m0, jO 7 [.int (iI thr), .int (iI ask), .int (iI fnd), .ref m1, .ref m2, .ref m3, .int (iI (n : Int)), .int (iI (wd : Int)), .ref m4, .ref m5, .int (iI mm), .ref m6, .ref m7, .int (iI um), .ref m8, .ref m9, .ref m10, .ref m11, .int (iI pd2), .int (iI nd), .ref m12, .int (iI pal)]), (m2, jA E 192 rw0), (m3, jA E 4 (aI rn)), (m4, jA E 48 it), (m11, jA E 48 pi2)]) := by
  refine MC.of (by decide) rfl rfl ?_
  refine j_iload_1 1 dX7_countOf_0 rfl ?_
  refine j_iconst 2 dX7_countOf_1 ?_
  refine j_icmp_ge 45 5 dX7_countOf_2 (by first | with_reducible exact iI_rng _ | with_reducible exact bI_r _ | exact ⟨by omega, by omega⟩) (by first | with_reducible exact iI_rng _ | with_reducible exact bI_r _ | exact ⟨by omega, by omega⟩) (fun q2 => ?_) (fun q2 => ?_)
  · refine j_iload_1 46 dX7_countOf_45 rfl ?_
    refine j_bipush 48 dX7_countOf_46 (by decide +kernel) ?_
    refine j_icmp_ge 80 51 dX7_countOf_48 (by first | with_reducible exact iI_rng _ | with_reducible exact bI_r _ | exact ⟨by omega, by omega⟩) (by first | with_reducible exact iI_rng _ | with_reducible exact bI_r _ | exact ⟨by omega, by omega⟩) (fun q48 => ?_) (fun q48 => ?_)
    · omega
    · refine j_iload_1 52 dX7_countOf_51 rfl ?_
      refine j_iconst 53 dX7_countOf_52 ?_
      refine j_icmp_ne 63 56 dX7_countOf_53 (by first | with_reducible exact iI_rng _ | with_reducible exact bI_r _ | exact ⟨by omega, by omega⟩) (by first | with_reducible exact iI_rng _ | with_reducible exact bI_r _ | exact ⟨by omega, by omega⟩) (fun q53 => ?_) (fun q53 => ?_)
      · refine j_iload_1 64 dX7_countOf_63 rfl ?_
        refine j_iconst 65 dX7_countOf_64 ?_
        refine j_icmp_ne 75 68 dX7_countOf_65 (by first | with_reducible exact iI_rng _ | with_reducible exact bI_r _ | exact ⟨by omega, by omega⟩) (by first | with_reducible exact iI_rng _ | with_reducible exact bI_r _ | exact ⟨by omega, by omega⟩) (fun q65 => ?_) (fun q65 => ?_)
        · omega
        · refine j_aload_0 69 dX7_countOf_68 rfl ?_
          refine j_get 72 0 gf_X7_93 dX7_countOf_69 rfl rfl ?_
          refine j_goto 79 dX7_countOf_72 ?_
          exact j_iret dX7_countOf_79 rfl rfl ⟨pd, pi, rfl, rfl⟩
      · omega
  · omega

set_option maxRecDepth 100000 in
set_option maxHeartbeats 4000000 in
theorem c_X7_countOf_6 (E : jD) (fnd : Int) (ask : Int) (mm : Int) (um : Int) (nd : Int) (m0 : Nat) (m1 : Nat) (m2 : Nat) (m3 : Nat) (m4 : Nat) (m5 : Nat) (m6 : Nat) (m7 : Nat) (m8 : Nat) (m9 : Nat) (m10 : Nat) (m11 : Nat) (m12 : Nat) (thr : Int) (pd : Int) (pal : Int) (rn : Nat → Int) (rw0 : Nat → Int32) (it : Nat → Int32) (pi : Nat → Int32) (n wd : Nat) (hnw : (n = 0 ∧ wd = 0) ∨ (1 ≤ wd ∧ wd ≤ 6 ∧ n ≤ 48)) (hnr : ∀ r, r < 4 → -1 ≤ rn r ∧ rn r ≤ 48) : MC E Y_X7_countOf [.ref m0, .int (iI (((6 : Nat) : Int)))] [(m0, jO 7 [.int (iI thr), .int (iI ask), .int (iI fnd), .ref m1, .ref m2, .ref m3, .int (iI (n : Int)), .int (iI (wd : Int)), .ref m4, .ref m5, .int (iI mm), .ref m6, .ref m7, .int (iI um), .ref m8, .ref m9, .ref m10, .ref m11, .int (iI pd), .int (iI nd), .ref m12, .int (iI pal)]), (m2, jA E 192 rw0), (m3, jA E 4 (aI rn)), (m4, jA E 48 it), (m11, jA E 48 pi)] (fun rr N0 => ∃ pd2 pi2, rr = some (.int (iI (biF (fun b => ((shB (tI it) n wd b : Nat) : Int)) wd (nB n wd)))) ∧ N0 = [(m0, jO 7 [.int (iI thr), .int (iI ask), .int (iI fnd), .ref m1, .ref m2, .ref m3, .int (iI (n : Int)), .int (iI (wd : Int)), .ref m4, .ref m5, .int (iI mm), .ref m6, .ref m7, .int (iI um), .ref m8, .ref m9, .ref m10, .ref m11, .int (iI pd2), .int (iI nd), .ref m12, .int (iI pal)]), (m2, jA E 192 rw0), (m3, jA E 4 (aI rn)), (m4, jA E 48 it), (m11, jA E 48 pi2)]) := by
  refine MC.of (by decide) rfl rfl ?_
  refine j_iload_1 1 dX7_countOf_0 rfl ?_
  refine j_iconst 2 dX7_countOf_1 ?_
  refine j_icmp_ge 45 5 dX7_countOf_2 (by first | with_reducible exact iI_rng _ | with_reducible exact bI_r _ | exact ⟨by omega, by omega⟩) (by first | with_reducible exact iI_rng _ | with_reducible exact bI_r _ | exact ⟨by omega, by omega⟩) (fun q2 => ?_) (fun q2 => ?_)
  · refine j_iload_1 46 dX7_countOf_45 rfl ?_
    refine j_bipush 48 dX7_countOf_46 (by decide +kernel) ?_
    refine j_icmp_ge 80 51 dX7_countOf_48 (by first | with_reducible exact iI_rng _ | with_reducible exact bI_r _ | exact ⟨by omega, by omega⟩) (by first | with_reducible exact iI_rng _ | with_reducible exact bI_r _ | exact ⟨by omega, by omega⟩) (fun q48 => ?_) (fun q48 => ?_)
    · omega
    · refine j_iload_1 52 dX7_countOf_51 rfl ?_
      refine j_iconst 53 dX7_countOf_52 ?_
      refine j_icmp_ne 63 56 dX7_countOf_53 (by first | with_reducible exact iI_rng _ | with_reducible exact bI_r _ | exact ⟨by omega, by omega⟩) (by first | with_reducible exact iI_rng _ | with_reducible exact bI_r _ | exact ⟨by omega, by omega⟩) (fun q53 => ?_) (fun q53 => ?_)
      · refine j_iload_1 64 dX7_countOf_63 rfl ?_
        refine j_iconst 65 dX7_countOf_64 ?_
        refine j_icmp_ne 75 68 dX7_countOf_65 (by first | with_reducible exact iI_rng _ | with_reducible exact bI_r _ | exact ⟨by omega, by omega⟩) (by first | with_reducible exact iI_rng _ | with_reducible exact bI_r _ | exact ⟨by omega, by omega⟩) (fun q65 => ?_) (fun q65 => ?_)
        · refine j_aload_0 76 dX7_countOf_75 rfl ?_
          refine j_callV 79 Y_X7_bits [0, 3, 4] [] (c_X7_bits E _ _ _ _ _ _ _ _ _ _ _ _ _ _ _ _ _ _ _ _ _ _ _ n wd hnw) m_X7_bits wml_X7_174 dX7_countOf_76 0 rfl rfl rfl rfl rfl rfl rfl rfl rfl (fun r N h => by obtain ⟨_, _, rfl, rfl⟩ := h; rfl) (fun r N h => ?_)
          obtain ⟨pd2, pi2, rfl, rfl⟩ := h
          exact j_iret dX7_countOf_79 rfl rfl ⟨pd2, pi2, rfl, rfl⟩
        · omega
      · omega
  · omega

set_option maxRecDepth 100000 in
set_option maxHeartbeats 4000000 in
theorem c_X7_countOf_7 (E : jD) (fnd : Int) (ask : Int) (mm : Int) (um : Int) (nd : Int) (m0 : Nat) (m1 : Nat) (m2 : Nat) (m3 : Nat) (m4 : Nat) (m5 : Nat) (m6 : Nat) (m7 : Nat) (m8 : Nat) (m9 : Nat) (m10 : Nat) (m11 : Nat) (m12 : Nat) (thr : Int) (pd : Int) (pal : Int) (rn : Nat → Int) (rw0 : Nat → Int32) (it : Nat → Int32) (pi : Nat → Int32) (n wd : Nat) (hnw : (n = 0 ∧ wd = 0) ∨ (1 ≤ wd ∧ wd ≤ 6 ∧ n ≤ 48)) (hnr : ∀ r, r < 4 → -1 ≤ rn r ∧ rn r ≤ 48) : MC E Y_X7_countOf [.ref m0, .int (iI (((7 : Nat) : Int)))] [(m0, jO 7 [.int (iI thr), .int (iI ask), .int (iI fnd), .ref m1, .ref m2, .ref m3, .int (iI (n : Int)), .int (iI (wd : Int)), .ref m4, .ref m5, .int (iI mm), .ref m6, .ref m7, .int (iI um), .ref m8, .ref m9, .ref m10, .ref m11, .int (iI pd), .int (iI nd), .ref m12, .int (iI pal)]), (m2, jA E 192 rw0), (m3, jA E 4 (aI rn)), (m4, jA E 48 it), (m11, jA E 48 pi)] (fun rr N0 => ∃ pd2 pi2, rr = some (.int (iI um)) ∧ N0 = [(m0, jO 7 [.int (iI thr), .int (iI ask), .int (iI fnd), .ref m1, .ref m2, .ref m3, .int (iI (n : Int)), .int (iI (wd : Int)), .ref m4, .ref m5, .int (iI mm), .ref m6, .ref m7, .int (iI um), .ref m8, .ref m9, .ref m10, .ref m11, .int (iI pd2), .int (iI nd), .ref m12, .int (iI pal)]), (m2, jA E 192 rw0), (m3, jA E 4 (aI rn)), (m4, jA E 48 it), (m11, jA E 48 pi2)]) := by
  refine MC.of (by decide) rfl rfl ?_
  refine j_iload_1 1 dX7_countOf_0 rfl ?_
  refine j_iconst 2 dX7_countOf_1 ?_
  refine j_icmp_ge 45 5 dX7_countOf_2 (by first | with_reducible exact iI_rng _ | with_reducible exact bI_r _ | exact ⟨by omega, by omega⟩) (by first | with_reducible exact iI_rng _ | with_reducible exact bI_r _ | exact ⟨by omega, by omega⟩) (fun q2 => ?_) (fun q2 => ?_)
  · refine j_iload_1 46 dX7_countOf_45 rfl ?_
    refine j_bipush 48 dX7_countOf_46 (by decide +kernel) ?_
    refine j_icmp_ge 80 51 dX7_countOf_48 (by first | with_reducible exact iI_rng _ | with_reducible exact bI_r _ | exact ⟨by omega, by omega⟩) (by first | with_reducible exact iI_rng _ | with_reducible exact bI_r _ | exact ⟨by omega, by omega⟩) (fun q48 => ?_) (fun q48 => ?_)
    · refine j_iload_1 81 dX7_countOf_80 rfl ?_
      refine j_bipush 83 dX7_countOf_81 (by decide +kernel) ?_
      refine j_icmp_ne 93 86 dX7_countOf_83 (by first | with_reducible exact iI_rng _ | with_reducible exact bI_r _ | exact ⟨by omega, by omega⟩) (by first | with_reducible exact iI_rng _ | with_reducible exact bI_r _ | exact ⟨by omega, by omega⟩) (fun q83 => ?_) (fun q83 => ?_)
      · omega
      · refine j_aload_0 87 dX7_countOf_86 rfl ?_
        refine j_get 90 0 gf_X7_96 dX7_countOf_87 rfl rfl ?_
        refine j_goto 110 dX7_countOf_90 ?_
        exact j_iret dX7_countOf_110 rfl rfl ⟨pd, pi, rfl, rfl⟩
    · omega
  · omega

set_option maxRecDepth 100000 in
set_option maxHeartbeats 4000000 in
theorem c_X7_countOf_8 (E : jD) (fnd : Int) (ask : Int) (mm : Int) (um : Int) (nd : Int) (m0 : Nat) (m1 : Nat) (m2 : Nat) (m3 : Nat) (m4 : Nat) (m5 : Nat) (m6 : Nat) (m7 : Nat) (m8 : Nat) (m9 : Nat) (m10 : Nat) (m11 : Nat) (m12 : Nat) (thr : Int) (pd : Int) (pal : Int) (rn : Nat → Int) (rw0 : Nat → Int32) (it : Nat → Int32) (pi : Nat → Int32) (n wd : Nat) (hnw : (n = 0 ∧ wd = 0) ∨ (1 ≤ wd ∧ wd ≤ 6 ∧ n ≤ 48)) (hnr : ∀ r, r < 4 → -1 ≤ rn r ∧ rn r ≤ 48) : MC E Y_X7_countOf [.ref m0, .int (iI (((8 : Nat) : Int)))] [(m0, jO 7 [.int (iI thr), .int (iI ask), .int (iI fnd), .ref m1, .ref m2, .ref m3, .int (iI (n : Int)), .int (iI (wd : Int)), .ref m4, .ref m5, .int (iI mm), .ref m6, .ref m7, .int (iI um), .ref m8, .ref m9, .ref m10, .ref m11, .int (iI pd), .int (iI nd), .ref m12, .int (iI pal)]), (m2, jA E 192 rw0), (m3, jA E 4 (aI rn)), (m4, jA E 48 it), (m11, jA E 48 pi)] (fun rr N0 => ∃ pd2 pi2, rr = some (.int (iI ((rwF rn 4 : Nat) : Int))) ∧ N0 = [(m0, jO 7 [.int (iI thr), .int (iI ask), .int (iI fnd), .ref m1, .ref m2, .ref m3, .int (iI (n : Int)), .int (iI (wd : Int)), .ref m4, .ref m5, .int (iI mm), .ref m6, .ref m7, .int (iI um), .ref m8, .ref m9, .ref m10, .ref m11, .int (iI pd2), .int (iI nd), .ref m12, .int (iI pal)]), (m2, jA E 192 rw0), (m3, jA E 4 (aI rn)), (m4, jA E 48 it), (m11, jA E 48 pi2)]) := by
  refine MC.of (by decide) rfl rfl ?_
  refine j_iload_1 1 dX7_countOf_0 rfl ?_
  refine j_iconst 2 dX7_countOf_1 ?_
  refine j_icmp_ge 45 5 dX7_countOf_2 (by first | with_reducible exact iI_rng _ | with_reducible exact bI_r _ | exact ⟨by omega, by omega⟩) (by first | with_reducible exact iI_rng _ | with_reducible exact bI_r _ | exact ⟨by omega, by omega⟩) (fun q2 => ?_) (fun q2 => ?_)
  · refine j_iload_1 46 dX7_countOf_45 rfl ?_
    refine j_bipush 48 dX7_countOf_46 (by decide +kernel) ?_
    refine j_icmp_ge 80 51 dX7_countOf_48 (by first | with_reducible exact iI_rng _ | with_reducible exact bI_r _ | exact ⟨by omega, by omega⟩) (by first | with_reducible exact iI_rng _ | with_reducible exact bI_r _ | exact ⟨by omega, by omega⟩) (fun q48 => ?_) (fun q48 => ?_)
    · refine j_iload_1 81 dX7_countOf_80 rfl ?_
      refine j_bipush 83 dX7_countOf_81 (by decide +kernel) ?_
      refine j_icmp_ne 93 86 dX7_countOf_83 (by first | with_reducible exact iI_rng _ | with_reducible exact bI_r _ | exact ⟨by omega, by omega⟩) (by first | with_reducible exact iI_rng _ | with_reducible exact bI_r _ | exact ⟨by omega, by omega⟩) (fun q83 => ?_) (fun q83 => ?_)
      · refine j_iload_1 94 dX7_countOf_93 rfl ?_
        refine j_bipush 96 dX7_countOf_94 (by decide +kernel) ?_
        refine j_icmp_ne 106 99 dX7_countOf_96 (by first | with_reducible exact iI_rng _ | with_reducible exact bI_r _ | exact ⟨by omega, by omega⟩) (by first | with_reducible exact iI_rng _ | with_reducible exact bI_r _ | exact ⟨by omega, by omega⟩) (fun q96 => ?_) (fun q96 => ?_)
        · omega
        · refine j_aload_0 100 dX7_countOf_99 rfl ?_
          refine j_callVi 103 Y_X7_rowsThere [0, 2] [] (c_X7_rowsThere E _ _ _ _ _ _ _ _ _ _ _ _ _ _ _ _ _ _ _ _ _ _ _ _ hnr) m_X7_rowsThere wml_X7_177 dX7_countOf_100 0 rfl rfl rfl rfl rfl rfl rfl rfl rfl rfl ?_
          refine j_goto 110 dX7_countOf_103 ?_
          exact j_iret dX7_countOf_110 rfl rfl ⟨pd, pi, rfl, rfl⟩
      · omega
    · omega
  · omega

set_option maxRecDepth 100000 in
set_option maxHeartbeats 4000000 in
theorem c_X7_countOf_9 (E : jD) (fnd : Int) (ask : Int) (mm : Int) (um : Int) (nd : Int) (m0 : Nat) (m1 : Nat) (m2 : Nat) (m3 : Nat) (m4 : Nat) (m5 : Nat) (m6 : Nat) (m7 : Nat) (m8 : Nat) (m9 : Nat) (m10 : Nat) (m11 : Nat) (m12 : Nat) (thr : Int) (pd : Int) (pal : Int) (rn : Nat → Int) (rw0 : Nat → Int32) (it : Nat → Int32) (pi : Nat → Int32) (n wd : Nat) (hnw : (n = 0 ∧ wd = 0) ∨ (1 ≤ wd ∧ wd ≤ 6 ∧ n ≤ 48)) (hnr : ∀ r, r < 4 → -1 ≤ rn r ∧ rn r ≤ 48) : MC E Y_X7_countOf [.ref m0, .int (iI (((9 : Nat) : Int)))] [(m0, jO 7 [.int (iI thr), .int (iI ask), .int (iI fnd), .ref m1, .ref m2, .ref m3, .int (iI (n : Int)), .int (iI (wd : Int)), .ref m4, .ref m5, .int (iI mm), .ref m6, .ref m7, .int (iI um), .ref m8, .ref m9, .ref m10, .ref m11, .int (iI pd), .int (iI nd), .ref m12, .int (iI pal)]), (m2, jA E 192 rw0), (m3, jA E 4 (aI rn)), (m4, jA E 48 it), (m11, jA E 48 pi)] (fun rr N0 => ∃ pd2 pi2, rr = some (.int (iI nd)) ∧ N0 = [(m0, jO 7 [.int (iI thr), .int (iI ask), .int (iI fnd), .ref m1, .ref m2, .ref m3, .int (iI (n : Int)), .int (iI (wd : Int)), .ref m4, .ref m5, .int (iI mm), .ref m6, .ref m7, .int (iI um), .ref m8, .ref m9, .ref m10, .ref m11, .int (iI pd2), .int (iI nd), .ref m12, .int (iI pal)]), (m2, jA E 192 rw0), (m3, jA E 4 (aI rn)), (m4, jA E 48 it), (m11, jA E 48 pi2)]) := by
  refine MC.of (by decide) rfl rfl ?_
  refine j_iload_1 1 dX7_countOf_0 rfl ?_
  refine j_iconst 2 dX7_countOf_1 ?_
  refine j_icmp_ge 45 5 dX7_countOf_2 (by first | with_reducible exact iI_rng _ | with_reducible exact bI_r _ | exact ⟨by omega, by omega⟩) (by first | with_reducible exact iI_rng _ | with_reducible exact bI_r _ | exact ⟨by omega, by omega⟩) (fun q2 => ?_) (fun q2 => ?_)
  · refine j_iload_1 46 dX7_countOf_45 rfl ?_
    refine j_bipush 48 dX7_countOf_46 (by decide +kernel) ?_
    refine j_icmp_ge 80 51 dX7_countOf_48 (by first | with_reducible exact iI_rng _ | with_reducible exact bI_r _ | exact ⟨by omega, by omega⟩) (by first | with_reducible exact iI_rng _ | with_reducible exact bI_r _ | exact ⟨by omega, by omega⟩) (fun q48 => ?_) (fun q48 => ?_)
    · refine j_iload_1 81 dX7_countOf_80 rfl ?_
      refine j_bipush 83 dX7_countOf_81 (by decide +kernel) ?_
      refine j_icmp_ne 93 86 dX7_countOf_83 (by first | with_reducible exact iI_rng _ | with_reducible exact bI_r _ | exact ⟨by omega, by omega⟩) (by first | with_reducible exact iI_rng _ | with_reducible exact bI_r _ | exact ⟨by omega, by omega⟩) (fun q83 => ?_) (fun q83 => ?_)
      · refine j_iload_1 94 dX7_countOf_93 rfl ?_
        refine j_bipush 96 dX7_countOf_94 (by decide +kernel) ?_
        refine j_icmp_ne 106 99 dX7_countOf_96 (by first | with_reducible exact iI_rng _ | with_reducible exact bI_r _ | exact ⟨by omega, by omega⟩) (by first | with_reducible exact iI_rng _ | with_reducible exact bI_r _ | exact ⟨by omega, by omega⟩) (fun q96 => ?_) (fun q96 => ?_)
        · refine j_aload_0 107 dX7_countOf_106 rfl ?_
          refine j_get 110 0 gf_X7_140 dX7_countOf_107 rfl rfl ?_
          exact j_iret dX7_countOf_110 rfl rfl ⟨pd, pi, rfl, rfl⟩
        · omega
      · omega
    · omega
  · omega

theorem c_X7_countOf (E : jD) (fnd : Int) (ask : Int) (mm : Int) (um : Int) (nd : Int) (m0 : Nat) (m1 : Nat) (m2 : Nat) (m3 : Nat) (m4 : Nat) (m5 : Nat) (m6 : Nat) (m7 : Nat) (m8 : Nat) (m9 : Nat) (m10 : Nat) (m11 : Nat) (m12 : Nat) (thr : Int) (pd : Int) (pal : Int) (rn : Nat → Int) (rw0 : Nat → Int32) (it : Nat → Int32) (pi : Nat → Int32) (n wd : Nat) (hnw : (n = 0 ∧ wd = 0) ∨ (1 ≤ wd ∧ wd ≤ 6 ∧ n ≤ 48)) (hnr : ∀ r, r < 4 → -1 ≤ rn r ∧ rn r ≤ 48) : ∀ k, k < 10 → MC E Y_X7_countOf [.ref m0, .int (iI ((k : Nat) : Int))] [(m0, jO 7 [.int (iI thr), .int (iI ask), .int (iI fnd), .ref m1, .ref m2, .ref m3, .int (iI (n : Int)), .int (iI (wd : Int)), .ref m4, .ref m5, .int (iI mm), .ref m6, .ref m7, .int (iI um), .ref m8, .ref m9, .ref m10, .ref m11, .int (iI pd), .int (iI nd), .ref m12, .int (iI pal)]), (m2, jA E 192 rw0), (m3, jA E 4 (aI rn)), (m4, jA E 48 it), (m11, jA E 48 pi)] (fun rr N0 => ∃ pd2 pi2, rr = some (.int (iI ((cmF (n : Int) (wd : Int) ((nB n wd : Nat) : Int) ((unF (fun b => ((shB (tI it) n wd b : Nat) : Int)) (nB n wd) : Nat) : Int) ((lvF (nB n wd) 7 1 : Nat) : Int) mm (biF (fun b => ((shB (tI it) n wd b : Nat) : Int)) wd (nB n wd)) um ((rwF rn 4 : Nat) : Int) nd) k))) ∧ N0 = [(m0, jO 7 [.int (iI thr), .int (iI ask), .int (iI fnd), .ref m1, .ref m2, .ref m3, .int (iI (n : Int)), .int (iI (wd : Int)), .ref m4, .ref m5, .int (iI mm), .ref m6, .ref m7, .int (iI um), .ref m8, .ref m9, .ref m10, .ref m11, .int (iI pd2), .int (iI nd), .ref m12, .int (iI pal)]), (m2, jA E 192 rw0), (m3, jA E 4 (aI rn)), (m4, jA E 48 it), (m11, jA E 48 pi2)]) := by
  intro k hk
  match k, hk with
  | 0, _ => exact c_X7_countOf_0 E fnd ask mm um nd m0 m1 m2 m3 m4 m5 m6 m7 m8 m9 m10 m11 m12 thr pd pal rn rw0 it pi n wd hnw hnr
  | 1, _ => exact c_X7_countOf_1 E fnd ask mm um nd m0 m1 m2 m3 m4 m5 m6 m7 m8 m9 m10 m11 m12 thr pd pal rn rw0 it pi n wd hnw hnr
  | 2, _ => exact c_X7_countOf_2 E fnd ask mm um nd m0 m1 m2 m3 m4 m5 m6 m7 m8 m9 m10 m11 m12 thr pd pal rn rw0 it pi n wd hnw hnr
  | 3, _ => exact c_X7_countOf_3 E fnd ask mm um nd m0 m1 m2 m3 m4 m5 m6 m7 m8 m9 m10 m11 m12 thr pd pal rn rw0 it pi n wd hnw hnr
  | 4, _ => exact c_X7_countOf_4 E fnd ask mm um nd m0 m1 m2 m3 m4 m5 m6 m7 m8 m9 m10 m11 m12 thr pd pal rn rw0 it pi n wd hnw hnr
  | 5, _ => exact c_X7_countOf_5 E fnd ask mm um nd m0 m1 m2 m3 m4 m5 m6 m7 m8 m9 m10 m11 m12 thr pd pal rn rw0 it pi n wd hnw hnr
  | 6, _ => exact c_X7_countOf_6 E fnd ask mm um nd m0 m1 m2 m3 m4 m5 m6 m7 m8 m9 m10 m11 m12 thr pd pal rn rw0 it pi n wd hnw hnr
  | 7, _ => exact c_X7_countOf_7 E fnd ask mm um nd m0 m1 m2 m3 m4 m5 m6 m7 m8 m9 m10 m11 m12 thr pd pal rn rw0 it pi n wd hnw hnr
  | 8, _ => exact c_X7_countOf_8 E fnd ask mm um nd m0 m1 m2 m3 m4 m5 m6 m7 m8 m9 m10 m11 m12 thr pd pal rn rw0 it pi n wd hnw hnr
  | 9, _ => exact c_X7_countOf_9 E fnd ask mm um nd m0 m1 m2 m3 m4 m5 m6 m7 m8 m9 m10 m11 m12 thr pd pal rn rw0 it pi n wd hnw hnr

set_option maxRecDepth 100000 in
set_option maxHeartbeats 4000000 in
theorem c_X7_count_ok (E : jD) (fnd : Int) (ask : Int) (mm : Int) (um : Int) (nd : Int) (m0 : Nat) (m1 : Nat) (m2 : Nat) (m3 : Nat) (m4 : Nat) (m5 : Nat) (m6 : Nat) (m7 : Nat) (m8 : Nat) (m9 : Nat) (m10 : Nat) (m11 : Nat) (m12 : Nat) (thr : Int) (pd : Int) (pal : Int) (rn : Nat → Int) (rw0 : Nat → Int32) (it : Nat → Int32) (pi : Nat → Int32) (n wd k : Nat) (hnw : (n = 0 ∧ wd = 0) ∨ (1 ≤ wd ∧ wd ≤ 6 ∧ n ≤ 48)) (hnr : ∀ r, r < 4 → -1 ≤ rn r ∧ rn r ≤ 48) (hk : k < 10) : MC E Y_X7_count [.ref m0, .int (iI (k : Int))] [(m0, jO 7 [.int (iI thr), .int (iI ask), .int (iI fnd), .ref m1, .ref m2, .ref m3, .int (iI (n : Int)), .int (iI (wd : Int)), .ref m4, .ref m5, .int (iI mm), .ref m6, .ref m7, .int (iI um), .ref m8, .ref m9, .ref m10, .ref m11, .int (iI pd), .int (iI nd), .ref m12, .int (iI pal)]), (m2, jA E 192 rw0), (m3, jA E 4 (aI rn)), (m4, jA E 48 it), (m11, jA E 48 pi)] (fun rr N0 => ∃ pd2 pi2, rr = some (.int (iI ((cmF (n : Int) (wd : Int) ((nB n wd : Nat) : Int) ((unF (fun b => ((shB (tI it) n wd b : Nat) : Int)) (nB n wd) : Nat) : Int) ((lvF (nB n wd) 7 1 : Nat) : Int) mm (biF (fun b => ((shB (tI it) n wd b : Nat) : Int)) wd (nB n wd)) um ((rwF rn 4 : Nat) : Int) nd) k))) ∧ N0 = [(m0, jO 7 [.int (iI 0), .int (iI ask), .int (iI fnd), .ref m1, .ref m2, .ref m3, .int (iI (n : Int)), .int (iI (wd : Int)), .ref m4, .ref m5, .int (iI mm), .ref m6, .ref m7, .int (iI um), .ref m8, .ref m9, .ref m10, .ref m11, .int (iI pd2), .int (iI nd), .ref m12, .int (iI pal)]), (m2, jA E 192 rw0), (m3, jA E 4 (aI rn)), (m4, jA E 48 it), (m11, jA E 48 pi2)]) := by
  refine MC.of (by decide) rfl rfl ?_
  refine j_aload_0 1 dX7_count_0 rfl ?_
  refine j_iconst 2 dX7_count_1 ?_
  refine j_put 5 0 pf_X7_46 dX7_count_2 rfl ⟨rfl, rfl, rfl⟩ ?_
  refine j_iload_1 6 dX7_count_5 rfl ?_
  refine j_iconst 7 dX7_count_6 ?_
  refine j_bipush 9 dX7_count_7 (by decide +kernel) ?_
  refine j_callSi 12 Y_X7_in [] [_, _, _] (c_X7_in E _ _ _ (by first | with_reducible assumption | with_reducible exact iI_rng _ | exact ⟨by omega, by omega⟩) (by first | with_reducible assumption | with_reducible exact iI_rng _ | exact ⟨by omega, by omega⟩) (by first | with_reducible assumption | with_reducible exact iI_rng _ | exact ⟨by omega, by omega⟩)) m_X7_in wml_X7_56 dX7_count_9 rfl rfl rfl rfl rfl rfl rfl ?_
  refine j_bif_eq 23 15 dX7_count_12 (fun q12 => ?_) (fun q12 => ?_)
  · omega
  · refine j_aload_0 16 dX7_count_15 rfl ?_
    refine j_iload_1 17 dX7_count_16 rfl ?_
    refine j_callV 20 Y_X7_countOf [0, 1, 2, 3, 4] [_] (c_X7_countOf E _ _ _ _ _ _ _ _ _ _ _ _ _ _ _ _ _ _ _ _ _ _ _ _ _ n wd hnw hnr k (by omega)) m_X7_countOf wml_X7_180 dX7_count_17 0 rfl rfl rfl rfl rfl rfl rfl rfl rfl (fun r N h => by obtain ⟨_, _, rfl, rfl⟩ := h; rfl) (fun r N h => ?_)
    obtain ⟨pd2, pi2, rfl, rfl⟩ := h
    refine j_goto 24 dX7_count_20 ?_
    exact j_iret dX7_count_24 rfl rfl ⟨pd2, pi2, rfl, rfl⟩

set_option maxRecDepth 100000 in
set_option maxHeartbeats 4000000 in
theorem c_X7_count_bad (E : jD) (fnd : Int) (ask : Int) (wd : Int) (n : Int) (mm : Int) (um : Int) (nd : Int) (m0 : Nat) (m1 : Nat) (m2 : Nat) (m3 : Nat) (m4 : Nat) (m5 : Nat) (m6 : Nat) (m7 : Nat) (m8 : Nat) (m9 : Nat) (m10 : Nat) (m11 : Nat) (m12 : Nat) (thr : Int) (pd : Int) (pal : Int) (q : Int) (hq0 : jr q) (hb : q < 0 ∨ 9 < q) : MC E Y_X7_count [.ref m0, .int (iI q)] [(m0, jO 7 [.int (iI thr), .int (iI ask), .int (iI fnd), .ref m1, .ref m2, .ref m3, .int (iI n), .int (iI wd), .ref m4, .ref m5, .int (iI mm), .ref m6, .ref m7, .int (iI um), .ref m8, .ref m9, .ref m10, .ref m11, .int (iI pd), .int (iI nd), .ref m12, .int (iI pal)])] (fun rr N0 => rr = some (.int (iI (-1))) ∧ N0 = [(m0, jO 7 [.int (iI 0), .int (iI ask), .int (iI fnd), .ref m1, .ref m2, .ref m3, .int (iI n), .int (iI wd), .ref m4, .ref m5, .int (iI mm), .ref m6, .ref m7, .int (iI um), .ref m8, .ref m9, .ref m10, .ref m11, .int (iI pd), .int (iI nd), .ref m12, .int (iI pal)])]) := by
  refine MC.of (by decide) rfl rfl ?_
  refine j_aload_0 1 dX7_count_0 rfl ?_
  refine j_iconst 2 dX7_count_1 ?_
  refine j_put 5 0 pf_X7_46 dX7_count_2 rfl ⟨rfl, rfl, rfl⟩ ?_
  refine j_iload_1 6 dX7_count_5 rfl ?_
  refine j_iconst 7 dX7_count_6 ?_
  refine j_bipush 9 dX7_count_7 (by decide +kernel) ?_
  refine j_callSi 12 Y_X7_in [] [_, _, _] (c_X7_in E _ _ _ (by first | with_reducible assumption | with_reducible exact iI_rng _ | exact ⟨by omega, by omega⟩) (by first | with_reducible assumption | with_reducible exact iI_rng _ | exact ⟨by omega, by omega⟩) (by first | with_reducible assumption | with_reducible exact iI_rng _ | exact ⟨by omega, by omega⟩)) m_X7_in wml_X7_56 dX7_count_9 rfl rfl rfl rfl rfl rfl rfl ?_
  refine j_bif_eq 23 15 dX7_count_12 (fun q12 => ?_) (fun q12 => ?_)
  · refine j_iconst 24 dX7_count_23 ?_
    exact j_iret dX7_count_24 rfl rfl ⟨rfl, rfl⟩
  · omega

set_option maxRecDepth 100000 in
set_option maxHeartbeats 4000000 in
theorem lp7_digest4 (E : jD) (fnd : Int) (ask : Int) (mm : Int) (um : Int) (nd : Int) (m0 : Nat) (m1 : Nat) (m2 : Nat) (m3 : Nat) (m4 : Nat) (m5 : Nat) (m6 : Nat) (m7 : Nat) (m8 : Nat) (m9 : Nat) (m10 : Nat) (m11 : Nat) (m12 : Nat) (pal : Int) (rn : Nat → Int) (rw0 : Nat → Int32) (it : Nat → Int32) (n wd : Nat) (hnw : (n = 0 ∧ wd = 0) ∨ (1 ≤ wd ∧ wd ≤ 6 ∧ n ≤ 48)) (hnr : ∀ r, r < 4 → -1 ≤ rn r ∧ rn r ≤ 48) (r : Nat) (hr4 : r < 4) (pd : Int) (pi : Nat → Int32) (kk : ∀ k4, J E Y_X7_digest (jZm E Y_X7_digest (fun rr N0 => ∃ pd2 pi2, rr = some (.long (dgr (dgF (dgF (dgc (cmF (n : Int) (wd : Int) ((nB n wd : Nat) : Int) ((unF (fun b => ((shB (tI it) n wd b : Nat) : Int)) (nB n wd) : Nat) : Int) ((lvF (nB n wd) 7 1 : Nat) : Int) mm (biF (fun b => ((shB (tI it) n wd b : Nat) : Int)) wd (nB n wd)) um ((rwF rn 4 : Nat) : Int) nd) 10) it n) (fun b => iI ((shB (tI it) n wd b : Nat) : Int)) (nB n wd)) rn (fun r k => rw0 (48 * r + k)) 4)) ∧ N0 = [(m0, jO 7 [.int (iI 0), .int (iI ask), .int (iI fnd), .ref m1, .ref m2, .ref m3, .int (iI (n : Int)), .int (iI (wd : Int)), .ref m4, .ref m5, .int (iI mm), .ref m6, .ref m7, .int (iI um), .ref m8, .ref m9, .ref m10, .ref m11, .int (iI pd2), .int (iI nd), .ref m12, .int (iI pal)]), (m2, jA E 192 rw0), (m3, jA E 4 (aI rn)), (m4, jA E 48 it), (m11, jA E 48 pi2)])) 0 0 156 [(0, .ref m0), (1, .long (dgr (dgF (dgF (dgc (cmF (n : Int) (wd : Int) ((nB n wd : Nat) : Int) ((unF (fun b => ((shB (tI it) n wd b : Nat) : Int)) (nB n wd) : Nat) : Int) ((lvF (nB n wd) 7 1 : Nat) : Int) mm (biF (fun b => ((shB (tI it) n wd b : Nat) : Int)) wd (nB n wd)) um ((rwF rn 4 : Nat) : Int) nd) 10) it n) (fun b => iI ((shB (tI it) n wd b : Nat) : Int)) (nB n wd)) rn (fun r k => rw0 (48 * r + k)) (r + 1))), (3, .int (iI (r : Int))), (4, .int (iI (k4 : Int)))] [] [(m0, jO 7 [.int (iI 0), .int (iI ask), .int (iI fnd), .ref m1, .ref m2, .ref m3, .int (iI (n : Int)), .int (iI (wd : Int)), .ref m4, .ref m5, .int (iI mm), .ref m6, .ref m7, .int (iI um), .ref m8, .ref m9, .ref m10, .ref m11, .int (iI pd), .int (iI nd), .ref m12, .int (iI pal)]), (m2, jA E 192 rw0), (m3, jA E 4 (aI rn)), (m4, jA E 48 it), (m11, jA E 48 pi)]) : ∀ (d : Nat) (k : Nat), (rn r).toNat - k < d → (k ≤ (rn r).toNat) → J E Y_X7_digest (jZm E Y_X7_digest (fun rr N0 => ∃ pd2 pi2, rr = some (.long (dgr (dgF (dgF (dgc (cmF (n : Int) (wd : Int) ((nB n wd : Nat) : Int) ((unF (fun b => ((shB (tI it) n wd b : Nat) : Int)) (nB n wd) : Nat) : Int) ((lvF (nB n wd) 7 1 : Nat) : Int) mm (biF (fun b => ((shB (tI it) n wd b : Nat) : Int)) wd (nB n wd)) um ((rwF rn 4 : Nat) : Int) nd) 10) it n) (fun b => iI ((shB (tI it) n wd b : Nat) : Int)) (nB n wd)) rn (fun r k => rw0 (48 * r + k)) 4)) ∧ N0 = [(m0, jO 7 [.int (iI 0), .int (iI ask), .int (iI fnd), .ref m1, .ref m2, .ref m3, .int (iI (n : Int)), .int (iI (wd : Int)), .ref m4, .ref m5, .int (iI mm), .ref m6, .ref m7, .int (iI um), .ref m8, .ref m9, .ref m10, .ref m11, .int (iI pd2), .int (iI nd), .ref m12, .int (iI pal)]), (m2, jA E 192 rw0), (m3, jA E 4 (aI rn)), (m4, jA E 48 it), (m11, jA E 48 pi2)])) 0 0 119 [(0, .ref m0), (1, .long (dgF (31 * dgr (dgF (dgF (dgc (cmF (n : Int) (wd : Int) ((nB n wd : Nat) : Int) ((unF (fun b => ((shB (tI it) n wd b : Nat) : Int)) (nB n wd) : Nat) : Int) ((lvF (nB n wd) 7 1 : Nat) : Int) mm (biF (fun b => ((shB (tI it) n wd b : Nat) : Int)) wd (nB n wd)) um ((rwF rn 4 : Nat) : Int) nd) 10) it n) (fun b => iI ((shB (tI it) n wd b : Nat) : Int)) (nB n wd)) rn (fun r k => rw0 (48 * r + k)) r + (iI (rn r)).toInt64) ((fun r k => rw0 (48 * r + k)) r) k)), (3, .int (iI (r : Int))), (4, .int (iI (k : Int)))] [] [(m0, jO 7 [.int (iI 0), .int (iI ask), .int (iI fnd), .ref m1, .ref m2, .ref m3, .int (iI (n : Int)), .int (iI (wd : Int)), .ref m4, .ref m5, .int (iI mm), .ref m6, .ref m7, .int (iI um), .ref m8, .ref m9, .ref m10, .ref m11, .int (iI pd), .int (iI nd), .ref m12, .int (iI pal)]), (m2, jA E 192 rw0), (m3, jA E 4 (aI rn)), (m4, jA E 48 it), (m11, jA E 48 pi)] := by
  intro d
  induction d with
  | zero => intros; omega
  | succ d ih =>
    intro k hd hk
    have hnr1 := hnr r hr4
    refine j_iload 121 dX7_digest_119 rfl ?_
    refine j_aload_0 122 dX7_digest_121 rfl ?_
    refine j_get 125 0 gf_X7_16 dX7_digest_122 rfl rfl ?_
    refine j_iload_3 126 dX7_digest_125 rfl ?_
    refine j_ialdw 127 2 _ (rn r) dX7_digest_126 rfl rfl rfl (by omega) rfl ?_
    refine j_icmp_ge 156 130 dX7_digest_127 (by first | with_reducible exact iI_rng _ | with_reducible exact bI_r _ | exact ⟨by omega, by omega⟩) (by first | with_reducible exact iI_rng _ | with_reducible exact bI_r _ | exact ⟨by omega, by omega⟩) (fun q127 => ?_) (fun q127 => ?_)
    · obtain rfl : (rn r).toNat = k := by omega
      exact kk _
    · refine j_ldc2 133 wk_X7_185 dX7_digest_130 ?_
      refine j_lload_1 134 dX7_digest_133 rfl ?_
      refine j_lmul 135 dX7_digest_134 ?_
      refine j_aload_0 136 dX7_digest_135 rfl ?_
      refine j_get 139 0 gf_X7_13 dX7_digest_136 rfl rfl ?_
      refine j_bipush 141 dX7_digest_139 (by decide +kernel) ?_
      refine j_iload_3 142 dX7_digest_141 rfl ?_
      refine j_imul 143 dX7_digest_142 ?_
      refine j_iload 145 dX7_digest_143 rfl ?_
      refine j_iadd 146 dX7_digest_145 ?_
      refine j_ialdx 147 1 (48 * r + k) dX7_digest_146 rfl rfl (by omega) (by omega) ?_
      refine j_i2l 148 dX7_digest_147 ?_
      refine j_ladd 149 dX7_digest_148 ?_
      refine j_lstore_1 150 (lv' := [(0, _), (1, _), (3, _), (4, _)]) dX7_digest_149 rfl ⟨rfl, rfl, rfl⟩ ?_
      refine j_iinc 153 (lv' := [(0, _), (1, _), (3, _), (4, _)]) dX7_digest_150 rfl rfl ⟨rfl, rfl⟩ ?_
      refine j_goto 119 dX7_digest_153 ?_
      exact ih (k + 1) (by omega) (by omega)

set_option maxRecDepth 100000 in
set_option maxHeartbeats 4000000 in
theorem lp7_digest3 (E : jD) (fnd : Int) (ask : Int) (mm : Int) (um : Int) (nd : Int) (m0 : Nat) (m1 : Nat) (m2 : Nat) (m3 : Nat) (m4 : Nat) (m5 : Nat) (m6 : Nat) (m7 : Nat) (m8 : Nat) (m9 : Nat) (m10 : Nat) (m11 : Nat) (m12 : Nat) (pal : Int) (rn : Nat → Int) (rw0 : Nat → Int32) (it : Nat → Int32) (n wd : Nat) (hnw : (n = 0 ∧ wd = 0) ∨ (1 ≤ wd ∧ wd ≤ 6 ∧ n ≤ 48)) (hnr : ∀ r, r < 4 → -1 ≤ rn r ∧ rn r ≤ 48) (pd : Int) (pi : Nat → Int32) : ∀ (d : Nat) (r : Nat) (z4 : List (Nat × Value)), 4 - r < d → (r ≤ 4) → (z4 = [] ∨ ∃ x, z4 = [(4, x)]) → J E Y_X7_digest (jZm E Y_X7_digest (fun rr N0 => ∃ pd2 pi2, rr = some (.long (dgr (dgF (dgF (dgc (cmF (n : Int) (wd : Int) ((nB n wd : Nat) : Int) ((unF (fun b => ((shB (tI it) n wd b : Nat) : Int)) (nB n wd) : Nat) : Int) ((lvF (nB n wd) 7 1 : Nat) : Int) mm (biF (fun b => ((shB (tI it) n wd b : Nat) : Int)) wd (nB n wd)) um ((rwF rn 4 : Nat) : Int) nd) 10) it n) (fun b => iI ((shB (tI it) n wd b : Nat) : Int)) (nB n wd)) rn (fun r k => rw0 (48 * r + k)) 4)) ∧ N0 = [(m0, jO 7 [.int (iI 0), .int (iI ask), .int (iI fnd), .ref m1, .ref m2, .ref m3, .int (iI (n : Int)), .int (iI (wd : Int)), .ref m4, .ref m5, .int (iI mm), .ref m6, .ref m7, .int (iI um), .ref m8, .ref m9, .ref m10, .ref m11, .int (iI pd2), .int (iI nd), .ref m12, .int (iI pal)]), (m2, jA E 192 rw0), (m3, jA E 4 (aI rn)), (m4, jA E 48 it), (m11, jA E 48 pi2)])) 0 0 97 ([(0, .ref m0), (1, .long (dgr (dgF (dgF (dgc (cmF (n : Int) (wd : Int) ((nB n wd : Nat) : Int) ((unF (fun b => ((shB (tI it) n wd b : Nat) : Int)) (nB n wd) : Nat) : Int) ((lvF (nB n wd) 7 1 : Nat) : Int) mm (biF (fun b => ((shB (tI it) n wd b : Nat) : Int)) wd (nB n wd)) um ((rwF rn 4 : Nat) : Int) nd) 10) it n) (fun b => iI ((shB (tI it) n wd b : Nat) : Int)) (nB n wd)) rn (fun r k => rw0 (48 * r + k)) r)), (3, .int (iI (r : Int)))] ++ z4) [] [(m0, jO 7 [.int (iI 0), .int (iI ask), .int (iI fnd), .ref m1, .ref m2, .ref m3, .int (iI (n : Int)), .int (iI (wd : Int)), .ref m4, .ref m5, .int (iI mm), .ref m6, .ref m7, .int (iI um), .ref m8, .ref m9, .ref m10, .ref m11, .int (iI pd), .int (iI nd), .ref m12, .int (iI pal)]), (m2, jA E 192 rw0), (m3, jA E 4 (aI rn)), (m4, jA E 48 it), (m11, jA E 48 pi)] := by
  intro d
  induction d with
  | zero => intros; omega
  | succ d ih =>
    intro r z4 hd hk hz4
    refine j_take 3 ?_
    refine j_eqL (lv' := [(0, .ref m0), (1, .long (dgr (dgF (dgF (dgc (cmF (n : Int) (wd : Int) ((nB n wd : Nat) : Int) ((unF (fun b => ((shB (tI it) n wd b : Nat) : Int)) (nB n wd) : Nat) : Int) ((lvF (nB n wd) 7 1 : Nat) : Int) mm (biF (fun b => ((shB (tI it) n wd b : Nat) : Int)) wd (nB n wd)) um ((rwF rn 4 : Nat) : Int) nd) 10) it n) (fun b => iI ((shB (tI it) n wd b : Nat) : Int)) (nB n wd)) rn (fun r k => rw0 (48 * r + k)) r)), (3, .int (iI (r : Int)))]) (by rcases hz4 with rfl | ⟨x, rfl⟩ <;> rfl) ?_
    refine j_iload_3 98 dX7_digest_97 rfl ?_
    refine j_iconst 99 dX7_digest_98 ?_
    refine j_icmp_ge 162 102 dX7_digest_99 (by first | with_reducible exact iI_rng _ | with_reducible exact bI_r _ | exact ⟨by omega, by omega⟩) (by first | with_reducible exact iI_rng _ | with_reducible exact bI_r _ | exact ⟨by omega, by omega⟩) (fun q99 => ?_) (fun q99 => ?_)
    · obtain rfl : r = 4 := by omega
      refine j_lload_1 163 dX7_digest_162 rfl ?_
      exact j_lret dX7_digest_163 rfl rfl ⟨pd, pi, rfl, rfl⟩
    · refine j_ldc2 105 wk_X7_185 dX7_digest_102 ?_
      refine j_lload_1 106 dX7_digest_105 rfl ?_
      refine j_lmul 107 dX7_digest_106 ?_
      refine j_aload_0 108 dX7_digest_107 rfl ?_
      refine j_get 111 0 gf_X7_16 dX7_digest_108 rfl rfl ?_
      refine j_iload_3 112 dX7_digest_111 rfl ?_
      refine j_ialdw 113 2 _ (rn r) dX7_digest_112 rfl rfl rfl (by omega) rfl ?_
      refine j_i2l 114 dX7_digest_113 ?_
      refine j_ladd 115 dX7_digest_114 ?_
      refine j_lstore_1 116 (lv' := [(0, _), (1, _), (3, _)]) dX7_digest_115 rfl ⟨rfl, rfl, rfl⟩ ?_
      refine j_iconst 117 dX7_digest_116 ?_
      refine j_istore 119 (lv' := [(0, _), (1, _), (3, _), (4, _)]) dX7_digest_117 rfl ⟨rfl, rfl⟩ ?_
      refine lp7_digest4 E fnd ask mm um nd m0 m1 m2 m3 m4 m5 m6 m7 m8 m9 m10 m11 m12 pal rn rw0 it n wd hnw hnr r (by omega) pd pi (fun k4 => ?_) ((rn r).toNat + 1) 0 (by omega) (by omega)
      refine j_iinc 159 (lv' := [(0, .ref m0), (1, .long (dgr (dgF (dgF (dgc (cmF (n : Int) (wd : Int) ((nB n wd : Nat) : Int) ((unF (fun b => ((shB (tI it) n wd b : Nat) : Int)) (nB n wd) : Nat) : Int) ((lvF (nB n wd) 7 1 : Nat) : Int) mm (biF (fun b => ((shB (tI it) n wd b : Nat) : Int)) wd (nB n wd)) um ((rwF rn 4 : Nat) : Int) nd) 10) it n) (fun b => iI ((shB (tI it) n wd b : Nat) : Int)) (nB n wd)) rn (fun r k => rw0 (48 * r + k)) (r + 1))), (3, .int (iI (((r + 1 : Nat) : Int) : Int))), (4, .int (iI (k4 : Int)))]) dX7_digest_156 rfl rfl ⟨rfl, rfl⟩ ?_
      refine j_goto 97 dX7_digest_159 ?_
      exact ih (r + 1) [(4, _)] (by omega) (by omega) (Or.inr ⟨_, rfl⟩)

set_option maxRecDepth 100000 in
set_option maxHeartbeats 4000000 in
theorem lp7_digest2 (E : jD) (fnd : Int) (ask : Int) (mm : Int) (um : Int) (nd : Int) (m0 : Nat) (m1 : Nat) (m2 : Nat) (m3 : Nat) (m4 : Nat) (m5 : Nat) (m6 : Nat) (m7 : Nat) (m8 : Nat) (m9 : Nat) (m10 : Nat) (m11 : Nat) (m12 : Nat) (pal : Int) (rn : Nat → Int) (rw0 : Nat → Int32) (it : Nat → Int32) (n wd : Nat) (hnw : (n = 0 ∧ wd = 0) ∨ (1 ≤ wd ∧ wd ≤ 6 ∧ n ≤ 48)) (hnr : ∀ r, r < 4 → -1 ≤ rn r ∧ rn r ≤ 48) : ∀ (d : Nat) (b : Nat) (pd : Int) (pi : Nat → Int32), nB n wd - b < d → (b ≤ nB n wd) → J E Y_X7_digest (jZm E Y_X7_digest (fun rr N0 => ∃ pd2 pi2, rr = some (.long (dgr (dgF (dgF (dgc (cmF (n : Int) (wd : Int) ((nB n wd : Nat) : Int) ((unF (fun b => ((shB (tI it) n wd b : Nat) : Int)) (nB n wd) : Nat) : Int) ((lvF (nB n wd) 7 1 : Nat) : Int) mm (biF (fun b => ((shB (tI it) n wd b : Nat) : Int)) wd (nB n wd)) um ((rwF rn 4 : Nat) : Int) nd) 10) it n) (fun b => iI ((shB (tI it) n wd b : Nat) : Int)) (nB n wd)) rn (fun r k => rw0 (48 * r + k)) 4)) ∧ N0 = [(m0, jO 7 [.int (iI 0), .int (iI ask), .int (iI fnd), .ref m1, .ref m2, .ref m3, .int (iI (n : Int)), .int (iI (wd : Int)), .ref m4, .ref m5, .int (iI mm), .ref m6, .ref m7, .int (iI um), .ref m8, .ref m9, .ref m10, .ref m11, .int (iI pd2), .int (iI nd), .ref m12, .int (iI pal)]), (m2, jA E 192 rw0), (m3, jA E 4 (aI rn)), (m4, jA E 48 it), (m11, jA E 48 pi2)])) 0 0 68 [(0, .ref m0), (1, .long (dgF (dgF (dgc (cmF (n : Int) (wd : Int) ((nB n wd : Nat) : Int) ((unF (fun b => ((shB (tI it) n wd b : Nat) : Int)) (nB n wd) : Nat) : Int) ((lvF (nB n wd) 7 1 : Nat) : Int) mm (biF (fun b => ((shB (tI it) n wd b : Nat) : Int)) wd (nB n wd)) um ((rwF rn 4 : Nat) : Int) nd) 10) it n) (fun b => iI ((shB (tI it) n wd b : Nat) : Int)) b)), (3, .int (iI (b : Int)))] [] [(m0, jO 7 [.int (iI 0), .int (iI ask), .int (iI fnd), .ref m1, .ref m2, .ref m3, .int (iI (n : Int)), .int (iI (wd : Int)), .ref m4, .ref m5, .int (iI mm), .ref m6, .ref m7, .int (iI um), .ref m8, .ref m9, .ref m10, .ref m11, .int (iI pd), .int (iI nd), .ref m12, .int (iI pal)]), (m2, jA E 192 rw0), (m3, jA E 4 (aI rn)), (m4, jA E 48 it), (m11, jA E 48 pi)] := by
  intro d
  induction d with
  | zero => intros; omega
  | succ d ih =>
    intro b pd pi hd hb
    have h48 := nB_48 hnw
    refine j_iload_3 69 dX7_digest_68 rfl ?_
    refine j_aload_0 70 dX7_digest_69 rfl ?_
    refine j_callVi 73 Y_X7_blocks [0] [] (c_X7_blocks E _ _ _ _ _ _ _ _ _ _ _ _ _ _ _ _ _ _ _ _ _ n wd hnw) m_X7_blocks wml_X7_99 dX7_digest_70 0 rfl rfl rfl rfl rfl rfl rfl rfl rfl rfl ?_
    refine j_icmp_ge 95 76 dX7_digest_73 (by first | with_reducible exact iI_rng _ | with_reducible exact bI_r _ | exact ⟨by omega, by omega⟩) (by first | with_reducible exact iI_rng _ | with_reducible exact bI_r _ | exact ⟨by omega, by omega⟩) (fun q73 => ?_) (fun q73 => ?_)
    · obtain rfl : nB n wd = b := by omega
      refine j_iconst 96 dX7_digest_95 ?_
      refine j_istore_3 97 (lv' := [(0, _), (1, _), (3, _)]) dX7_digest_96 rfl ⟨rfl, rfl⟩ ?_
      exact lp7_digest3 E fnd ask mm um nd m0 m1 m2 m3 m4 m5 m6 m7 m8 m9 m10 m11 m12 pal rn rw0 it n wd hnw hnr pd pi 5 0 [] (by omega) (by omega) (Or.inl rfl)
    · have hw : 1 ≤ wd ∧ wd ≤ 6 := by
        rcases hnw with ⟨rfl, rfl⟩ | h
        · exact absurd (show ((nB 0 0 : Nat) : Int) ≤ (b : Int) from Int.ofNat_le.mpr (Nat.zero_le _)) q73
        · exact ⟨h.1, h.2.1⟩
      have hbi := nB_in hw.1 (show b < nB n wd by omega)
      refine j_ldc2 79 wk_X7_185 dX7_digest_76 ?_
      refine j_lload_1 80 dX7_digest_79 rfl ?_
      refine j_lmul 81 dX7_digest_80 ?_
      refine j_aload_0 82 dX7_digest_81 rfl ?_
      refine j_iload_3 83 dX7_digest_82 rfl ?_
      refine j_callV 86 Y_X7_shapeOfBlock [0, 3, 4] [_] (c_X7_shapeOfBlock E _ _ _ _ _ _ _ _ _ _ _ _ _ _ _ _ _ _ _ _ _ _ _ n wd b hw (by omega) (by omega) (by omega)) m_X7_shapeOfBlock wml_X7_103 dX7_digest_83 0 rfl rfl rfl rfl rfl rfl rfl rfl rfl (fun r N h => by obtain ⟨_, _, rfl, rfl⟩ := h; rfl) (fun r N h => ?_)
      obtain ⟨pd2, pi2, rfl, rfl⟩ := h
      refine j_eqM (M' := [(m0, jO 7 [.int (iI 0), .int (iI ask), .int (iI fnd), .ref m1, .ref m2, .ref m3, .int (iI (n : Int)), .int (iI (wd : Int)), .ref m4, .ref m5, .int (iI mm), .ref m6, .ref m7, .int (iI um), .ref m8, .ref m9, .ref m10, .ref m11, .int (iI pd2), .int (iI nd), .ref m12, .int (iI pal)]), (m2, jA E 192 rw0), (m3, jA E 4 (aI rn)), (m4, jA E 48 it), (m11, jA E 48 pi2)]) rfl ?_
      refine j_i2l 87 dX7_digest_86 ?_
      refine j_ladd 88 dX7_digest_87 ?_
      refine j_lstore_1 89 (lv' := [(0, _), (1, _), (3, _)]) dX7_digest_88 rfl ⟨rfl, rfl, rfl⟩ ?_
      refine j_iinc 92 (lv' := [(0, _), (1, _), (3, _)]) dX7_digest_89 rfl rfl ⟨rfl, rfl⟩ ?_
      refine j_goto 68 dX7_digest_92 ?_
      exact ih (b + 1) pd2 pi2 (by omega) (by omega)

set_option maxRecDepth 100000 in
set_option maxHeartbeats 4000000 in
theorem lp7_digest1 (E : jD) (fnd : Int) (ask : Int) (mm : Int) (um : Int) (nd : Int) (m0 : Nat) (m1 : Nat) (m2 : Nat) (m3 : Nat) (m4 : Nat) (m5 : Nat) (m6 : Nat) (m7 : Nat) (m8 : Nat) (m9 : Nat) (m10 : Nat) (m11 : Nat) (m12 : Nat) (pal : Int) (rn : Nat → Int) (rw0 : Nat → Int32) (it : Nat → Int32) (n wd : Nat) (hnw : (n = 0 ∧ wd = 0) ∨ (1 ≤ wd ∧ wd ≤ 6 ∧ n ≤ 48)) (hnr : ∀ r, r < 4 → -1 ≤ rn r ∧ rn r ≤ 48) (pd : Int) (pi : Nat → Int32) : ∀ (d : Nat) (k : Nat), n - k < d → (k ≤ n) → J E Y_X7_digest (jZm E Y_X7_digest (fun rr N0 => ∃ pd2 pi2, rr = some (.long (dgr (dgF (dgF (dgc (cmF (n : Int) (wd : Int) ((nB n wd : Nat) : Int) ((unF (fun b => ((shB (tI it) n wd b : Nat) : Int)) (nB n wd) : Nat) : Int) ((lvF (nB n wd) 7 1 : Nat) : Int) mm (biF (fun b => ((shB (tI it) n wd b : Nat) : Int)) wd (nB n wd)) um ((rwF rn 4 : Nat) : Int) nd) 10) it n) (fun b => iI ((shB (tI it) n wd b : Nat) : Int)) (nB n wd)) rn (fun r k => rw0 (48 * r + k)) 4)) ∧ N0 = [(m0, jO 7 [.int (iI 0), .int (iI ask), .int (iI fnd), .ref m1, .ref m2, .ref m3, .int (iI (n : Int)), .int (iI (wd : Int)), .ref m4, .ref m5, .int (iI mm), .ref m6, .ref m7, .int (iI um), .ref m8, .ref m9, .ref m10, .ref m11, .int (iI pd2), .int (iI nd), .ref m12, .int (iI pal)]), (m2, jA E 192 rw0), (m3, jA E 4 (aI rn)), (m4, jA E 48 it), (m11, jA E 48 pi2)])) 0 0 38 [(0, .ref m0), (1, .long (dgF (dgc (cmF (n : Int) (wd : Int) ((nB n wd : Nat) : Int) ((unF (fun b => ((shB (tI it) n wd b : Nat) : Int)) (nB n wd) : Nat) : Int) ((lvF (nB n wd) 7 1 : Nat) : Int) mm (biF (fun b => ((shB (tI it) n wd b : Nat) : Int)) wd (nB n wd)) um ((rwF rn 4 : Nat) : Int) nd) 10) it k)), (3, .int (iI (k : Int)))] [] [(m0, jO 7 [.int (iI 0), .int (iI ask), .int (iI fnd), .ref m1, .ref m2, .ref m3, .int (iI (n : Int)), .int (iI (wd : Int)), .ref m4, .ref m5, .int (iI mm), .ref m6, .ref m7, .int (iI um), .ref m8, .ref m9, .ref m10, .ref m11, .int (iI pd), .int (iI nd), .ref m12, .int (iI pal)]), (m2, jA E 192 rw0), (m3, jA E 4 (aI rn)), (m4, jA E 48 it), (m11, jA E 48 pi)] := by
  intro d
  induction d with
  | zero => intros; omega
  | succ d ih =>
    intro k hd hk
    refine j_iload_3 39 dX7_digest_38 rfl ?_
    refine j_aload_0 40 dX7_digest_39 rfl ?_
    refine j_get 43 0 gf_X7_81 dX7_digest_40 rfl rfl ?_
    refine j_icmp_ge 66 46 dX7_digest_43 (by first | with_reducible exact iI_rng _ | with_reducible exact bI_r _ | exact ⟨by omega, by omega⟩) (by first | with_reducible exact iI_rng _ | with_reducible exact bI_r _ | exact ⟨by omega, by omega⟩) (fun q43 => ?_) (fun q43 => ?_)
    · obtain rfl : n = k := by omega
      refine j_iconst 67 dX7_digest_66 ?_
      refine j_istore_3 68 (lv' := [(0, _), (1, _), (3, _)]) dX7_digest_67 rfl ⟨rfl, rfl⟩ ?_
      exact lp7_digest2 E fnd ask mm um nd m0 m1 m2 m3 m4 m5 m6 m7 m8 m9 m10 m11 m12 pal rn rw0 it n wd hnw hnr (nB n wd + 1) 0 pd pi (by omega) (by omega)
    · refine j_ldc2 49 wk_X7_185 dX7_digest_46 ?_
      refine j_lload_1 50 dX7_digest_49 rfl ?_
      refine j_lmul 51 dX7_digest_50 ?_
      refine j_aload_0 52 dX7_digest_51 rfl ?_
      refine j_get 55 0 gf_X7_19 dX7_digest_52 rfl rfl ?_
      refine j_iload_3 56 dX7_digest_55 rfl ?_
      refine j_ialdx 57 3 _ dX7_digest_56 rfl rfl rfl (by omega) ?_
      refine j_i2l 58 dX7_digest_57 ?_
      refine j_ladd 59 dX7_digest_58 ?_
      refine j_lstore_1 60 (lv' := [(0, _), (1, _), (3, _)]) dX7_digest_59 rfl ⟨rfl, rfl, rfl⟩ ?_
      refine j_iinc 63 (lv' := [(0, _), (1, _), (3, _)]) dX7_digest_60 rfl rfl ⟨rfl, rfl⟩ ?_
      refine j_goto 38 dX7_digest_63 ?_
      exact ih (k + 1) (by omega) (by omega)

set_option maxRecDepth 100000 in
set_option maxHeartbeats 4000000 in
theorem lp7_digest0 (E : jD) (fnd : Int) (ask : Int) (mm : Int) (um : Int) (nd : Int) (m0 : Nat) (m1 : Nat) (m2 : Nat) (m3 : Nat) (m4 : Nat) (m5 : Nat) (m6 : Nat) (m7 : Nat) (m8 : Nat) (m9 : Nat) (m10 : Nat) (m11 : Nat) (m12 : Nat) (pal : Int) (rn : Nat → Int) (rw0 : Nat → Int32) (it : Nat → Int32) (n wd : Nat) (hnw : (n = 0 ∧ wd = 0) ∨ (1 ≤ wd ∧ wd ≤ 6 ∧ n ≤ 48)) (hnr : ∀ r, r < 4 → -1 ≤ rn r ∧ rn r ≤ 48) : ∀ (d : Nat) (k : Nat) (pd : Int) (pi : Nat → Int32), 10 - k < d → (k ≤ 10) → J E Y_X7_digest (jZm E Y_X7_digest (fun rr N0 => ∃ pd2 pi2, rr = some (.long (dgr (dgF (dgF (dgc (cmF (n : Int) (wd : Int) ((nB n wd : Nat) : Int) ((unF (fun b => ((shB (tI it) n wd b : Nat) : Int)) (nB n wd) : Nat) : Int) ((lvF (nB n wd) 7 1 : Nat) : Int) mm (biF (fun b => ((shB (tI it) n wd b : Nat) : Int)) wd (nB n wd)) um ((rwF rn 4 : Nat) : Int) nd) 10) it n) (fun b => iI ((shB (tI it) n wd b : Nat) : Int)) (nB n wd)) rn (fun r k => rw0 (48 * r + k)) 4)) ∧ N0 = [(m0, jO 7 [.int (iI 0), .int (iI ask), .int (iI fnd), .ref m1, .ref m2, .ref m3, .int (iI (n : Int)), .int (iI (wd : Int)), .ref m4, .ref m5, .int (iI mm), .ref m6, .ref m7, .int (iI um), .ref m8, .ref m9, .ref m10, .ref m11, .int (iI pd2), .int (iI nd), .ref m12, .int (iI pal)]), (m2, jA E 192 rw0), (m3, jA E 4 (aI rn)), (m4, jA E 48 it), (m11, jA E 48 pi2)])) 0 0 11 [(0, .ref m0), (1, .long (dgc (cmF (n : Int) (wd : Int) ((nB n wd : Nat) : Int) ((unF (fun b => ((shB (tI it) n wd b : Nat) : Int)) (nB n wd) : Nat) : Int) ((lvF (nB n wd) 7 1 : Nat) : Int) mm (biF (fun b => ((shB (tI it) n wd b : Nat) : Int)) wd (nB n wd)) um ((rwF rn 4 : Nat) : Int) nd) k)), (3, .int (iI (k : Int)))] [] [(m0, jO 7 [.int (iI 0), .int (iI ask), .int (iI fnd), .ref m1, .ref m2, .ref m3, .int (iI (n : Int)), .int (iI (wd : Int)), .ref m4, .ref m5, .int (iI mm), .ref m6, .ref m7, .int (iI um), .ref m8, .ref m9, .ref m10, .ref m11, .int (iI pd), .int (iI nd), .ref m12, .int (iI pal)]), (m2, jA E 192 rw0), (m3, jA E 4 (aI rn)), (m4, jA E 48 it), (m11, jA E 48 pi)] := by
  intro d
  induction d with
  | zero => intros; omega
  | succ d ih =>
    intro k pd pi hd hk
    refine j_iload_3 12 dX7_digest_11 rfl ?_
    refine j_bipush 14 dX7_digest_12 (by decide +kernel) ?_
    refine j_icmp_ge 36 17 dX7_digest_14 (by first | with_reducible exact iI_rng _ | with_reducible exact bI_r _ | exact ⟨by omega, by omega⟩) (by first | with_reducible exact iI_rng _ | with_reducible exact bI_r _ | exact ⟨by omega, by omega⟩) (fun q14 => ?_) (fun q14 => ?_)
    · obtain rfl : k = 10 := by omega
      refine j_iconst 37 dX7_digest_36 ?_
      refine j_istore_3 38 (lv' := [(0, _), (1, _), (3, _)]) dX7_digest_37 rfl ⟨rfl, rfl⟩ ?_
      exact lp7_digest1 E fnd ask mm um nd m0 m1 m2 m3 m4 m5 m6 m7 m8 m9 m10 m11 m12 pal rn rw0 it n wd hnw hnr pd pi (n + 1) 0 (by omega) (by omega)
    · refine j_ldc2 20 wk_X7_185 dX7_digest_17 ?_
      refine j_lload_1 21 dX7_digest_20 rfl ?_
      refine j_lmul 22 dX7_digest_21 ?_
      refine j_aload_0 23 dX7_digest_22 rfl ?_
      refine j_iload_3 24 dX7_digest_23 rfl ?_
      refine j_callV 27 Y_X7_countOf [0, 1, 2, 3, 4] [_] (c_X7_countOf E _ _ _ _ _ _ _ _ _ _ _ _ _ _ _ _ _ _ _ _ _ _ _ _ _ n wd hnw hnr k (by omega)) m_X7_countOf wml_X7_180 dX7_digest_24 0 rfl rfl rfl rfl rfl rfl rfl rfl rfl (fun r N h => by obtain ⟨_, _, rfl, rfl⟩ := h; rfl) (fun r N h => ?_)
      obtain ⟨pd2, pi2, rfl, rfl⟩ := h
      refine j_eqM (M' := [(m0, jO 7 [.int (iI 0), .int (iI ask), .int (iI fnd), .ref m1, .ref m2, .ref m3, .int (iI (n : Int)), .int (iI (wd : Int)), .ref m4, .ref m5, .int (iI mm), .ref m6, .ref m7, .int (iI um), .ref m8, .ref m9, .ref m10, .ref m11, .int (iI pd2), .int (iI nd), .ref m12, .int (iI pal)]), (m2, jA E 192 rw0), (m3, jA E 4 (aI rn)), (m4, jA E 48 it), (m11, jA E 48 pi2)]) rfl ?_
      refine j_i2l 28 dX7_digest_27 ?_
      refine j_ladd 29 dX7_digest_28 ?_
      refine j_lstore_1 30 (lv' := [(0, _), (1, _), (3, _)]) dX7_digest_29 rfl ⟨rfl, rfl, rfl⟩ ?_
      refine j_iinc 33 (lv' := [(0, _), (1, _), (3, _)]) dX7_digest_30 rfl rfl ⟨rfl, rfl⟩ ?_
      refine j_goto 11 dX7_digest_33 ?_
      exact ih (k + 1) pd2 pi2 (by omega) (by omega)

set_option maxRecDepth 100000 in
set_option maxHeartbeats 4000000 in
theorem c_X7_digest (E : jD) (fnd : Int) (ask : Int) (mm : Int) (um : Int) (nd : Int) (m0 : Nat) (m1 : Nat) (m2 : Nat) (m3 : Nat) (m4 : Nat) (m5 : Nat) (m6 : Nat) (m7 : Nat) (m8 : Nat) (m9 : Nat) (m10 : Nat) (m11 : Nat) (m12 : Nat) (thr : Int) (pd : Int) (pal : Int) (rn : Nat → Int) (rw0 : Nat → Int32) (it : Nat → Int32) (pi : Nat → Int32) (n wd : Nat) (hnw : (n = 0 ∧ wd = 0) ∨ (1 ≤ wd ∧ wd ≤ 6 ∧ n ≤ 48)) (hnr : ∀ r, r < 4 → -1 ≤ rn r ∧ rn r ≤ 48) : MC E Y_X7_digest [.ref m0] [(m0, jO 7 [.int (iI thr), .int (iI ask), .int (iI fnd), .ref m1, .ref m2, .ref m3, .int (iI (n : Int)), .int (iI (wd : Int)), .ref m4, .ref m5, .int (iI mm), .ref m6, .ref m7, .int (iI um), .ref m8, .ref m9, .ref m10, .ref m11, .int (iI pd), .int (iI nd), .ref m12, .int (iI pal)]), (m2, jA E 192 rw0), (m3, jA E 4 (aI rn)), (m4, jA E 48 it), (m11, jA E 48 pi)] (fun rr N0 => ∃ pd2 pi2, rr = some (.long (dgr (dgF (dgF (dgc (cmF (n : Int) (wd : Int) ((nB n wd : Nat) : Int) ((unF (fun b => ((shB (tI it) n wd b : Nat) : Int)) (nB n wd) : Nat) : Int) ((lvF (nB n wd) 7 1 : Nat) : Int) mm (biF (fun b => ((shB (tI it) n wd b : Nat) : Int)) wd (nB n wd)) um ((rwF rn 4 : Nat) : Int) nd) 10) it n) (fun b => iI ((shB (tI it) n wd b : Nat) : Int)) (nB n wd)) rn (fun r k => rw0 (48 * r + k)) 4)) ∧ N0 = [(m0, jO 7 [.int (iI 0), .int (iI ask), .int (iI fnd), .ref m1, .ref m2, .ref m3, .int (iI (n : Int)), .int (iI (wd : Int)), .ref m4, .ref m5, .int (iI mm), .ref m6, .ref m7, .int (iI um), .ref m8, .ref m9, .ref m10, .ref m11, .int (iI pd2), .int (iI nd), .ref m12, .int (iI pal)]), (m2, jA E 192 rw0), (m3, jA E 4 (aI rn)), (m4, jA E 48 it), (m11, jA E 48 pi2)]) := by
  refine MC.of (by decide) rfl rfl ?_
  refine j_aload_0 1 dX7_digest_0 rfl ?_
  refine j_iconst 2 dX7_digest_1 ?_
  refine j_put 5 0 pf_X7_46 dX7_digest_2 rfl ⟨rfl, rfl, rfl⟩ ?_
  refine j_ldc2 8 wk_X7_183 dX7_digest_5 ?_
  refine j_lstore_1 9 (lv' := [(0, _), (1, _)]) dX7_digest_8 rfl ⟨rfl, rfl, rfl⟩ ?_
  refine j_iconst 10 dX7_digest_9 ?_
  refine j_istore_3 11 (lv' := [(0, _), (1, _), (3, _)]) dX7_digest_10 rfl ⟨rfl, rfl⟩ ?_
  exact lp7_digest0 E fnd ask mm um nd m0 m1 m2 m3 m4 m5 m6 m7 m8 m9 m10 m11 m12 pal rn rw0 it n wd hnw hnr 11 0 pd pi (by omega) (by omega)
