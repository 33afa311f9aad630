set_option maxRecDepth 100000 in
set_option maxHeartbeats 4000000 in
theorem c_X7_build_bad (E : jD) (fnd : Int) (ask : Int) (wd : Int) (n : Int) (mm : Int) (um : Int) (nd : Int) (m0 : Nat) (m1 : Nat) (m2 : Nat) (m3 : Nat) (m4 : Nat) (m5 : Nat) (m6 : Nat) (m7 : Nat) (m8 : Nat) (m9 : Nat) (m10 : Nat) (m11 : Nat) (m12 : Nat) (thr : Int) (pd : Int) (pal : Int) (r q : Int) (hr : jr r) (hq : jr q) (hb : r < 0 ∨ 4 ≤ r ∨ q < 1 ∨ 6 < q) : MC E Y_X7_build [.ref m0, .int (iI r), .int (iI q)] [(m0, jO 7 [.int (iI thr), .int (iI ask), .int (iI fnd), .ref m1, .ref m2, .ref m3, .int (iI n), .int (iI wd), .ref m4, .ref m5, .int (iI mm), .ref m6, .ref m7, .int (iI um), .ref m8, .ref m9, .ref m10, .ref m11, .int (iI pd), .int (iI nd), .ref m12, .int (iI pal)])] (fun rr N0 => rr = some (.int (iI (-1))) ∧ N0 = [(m0, jO 7 [.int (iI 0), .int (iI ask), .int (iI fnd), .ref m1, .ref m2, .ref m3, .int (iI n), .int (iI wd), .ref m4, .ref m5, .int (iI mm), .ref m6, .ref m7, .int (iI um), .ref m8, .ref m9, .ref m10, .ref m11, .int (iI pd), .int (iI nd), .ref m12, .int (iI pal)])]) := by
  refine MC.of (by decide) rfl rfl ?_
  refine j_aload_0 1 dX7_build_0 rfl ?_
  refine j_iconst 2 dX7_build_1 ?_
  refine j_put 5 0 pf_X7_46 dX7_build_2 rfl ⟨rfl, rfl, rfl⟩ ?_
  refine j_iload_1 6 dX7_build_5 rfl ?_
  refine j_callSi 9 Y_X7_isRow [] [_] (c_X7_isRow E _ (by first | with_reducible assumption | with_reducible exact iI_rng _ | exact ⟨by omega, by omega⟩)) m_X7_isRow wml_X7_60 dX7_build_6 rfl rfl rfl rfl rfl rfl rfl ?_
  refine j_bif_eq 22 12 dX7_build_9 (fun q9 => ?_) (fun q9 => ?_)
  · refine j_iconst 23 dX7_build_22 ?_
    exact j_iret dX7_build_23 rfl rfl ⟨rfl, rfl⟩
  · refine j_iload_2 13 dX7_build_12 rfl ?_
    refine j_iconst 14 dX7_build_13 ?_
    refine j_bipush 16 dX7_build_14 (by decide +kernel) ?_
    refine j_callSi 19 Y_X7_in [] [_, _, _] (c_X7_in E _ _ _ (by first | with_reducible assumption | with_reducible exact iI_rng _ | exact ⟨by omega, by omega⟩) (by first | with_reducible assumption | with_reducible exact iI_rng _ | exact ⟨by omega, by omega⟩) (by first | with_reducible assumption | with_reducible exact iI_rng _ | exact ⟨by omega, by omega⟩)) m_X7_in wml_X7_56 dX7_build_16 rfl rfl rfl rfl rfl rfl rfl ?_
    refine j_bif_ne 24 22 dX7_build_19 (fun q19 => ?_) (fun q19 => ?_)
    · omega
    · refine j_iconst 23 dX7_build_22 ?_
      exact j_iret dX7_build_23 rfl rfl ⟨rfl, rfl⟩

set_option maxRecDepth 100000 in
set_option maxHeartbeats 4000000 in
theorem c_X7_build_no (E : jD) (fnd : Int) (ask : Int) (wd : Int) (n : Int) (mm : Int) (um : Int) (nd : Int) (fm : Nat → Int) (m0 : Nat) (m1 : Nat) (m2 : Nat) (m3 : Nat) (m4 : Nat) (m5 : Nat) (m6 : Nat) (m7 : Nat) (m8 : Nat) (m9 : Nat) (m10 : Nat) (m11 : Nat) (m12 : Nat) (thr : Int) (pd : Int) (pal : Int) (rn : Nat → Int) (r q : Nat) (c : Int) (hr4 : r < 4) (hN : -1 ≤ rn r ∧ rn r ≤ 48) (hq6 : 1 ≤ q ∧ q ≤ 6) (hc : (rn r < 0 ∧ c = 1) ∨ (rn r = 0 ∧ c = 3)) : MC E Y_X7_build [.ref m0, .int (iI (r : Int)), .int (iI (q : Int))] [(m0, jO 7 [.int (iI thr), .int (iI ask), .int (iI fnd), .ref m1, .ref m2, .ref m3, .int (iI n), .int (iI wd), .ref m4, .ref m5, .int (iI mm), .ref m6, .ref m7, .int (iI um), .ref m8, .ref m9, .ref m10, .ref m11, .int (iI pd), .int (iI nd), .ref m12, .int (iI pal)]), (m1, jA E 5 (aI fm)), (m3, jA E 4 (aI rn))] (fun rr N0 => rr = some (.int (iI (rz c))) ∧ N0 = [(m0, jO 7 [.int (iI 0), .int (iI ask), .int (iI (rf c fnd)), .ref m1, .ref m2, .ref m3, .int (iI n), .int (iI wd), .ref m4, .ref m5, .int (iI mm), .ref m6, .ref m7, .int (iI um), .ref m8, .ref m9, .ref m10, .ref m11, .int (iI pd), .int (iI nd), .ref m12, .int (iI pal)]), (m1, jA E 5 (aI (rm c fm))), (m3, jA E 4 (aI rn))]) := by
  refine MC.of (by decide) rfl rfl ?_
  refine j_aload_0 1 dX7_build_0 rfl ?_
  refine j_iconst 2 dX7_build_1 ?_
  refine j_put 5 0 pf_X7_46 dX7_build_2 rfl ⟨rfl, rfl, rfl⟩ ?_
  refine j_iload_1 6 dX7_build_5 rfl ?_
  refine j_callSi 9 Y_X7_isRow [] [_] (c_X7_isRow E _ (by first | with_reducible assumption | with_reducible exact iI_rng _ | exact ⟨by omega, by omega⟩)) m_X7_isRow wml_X7_60 dX7_build_6 rfl rfl rfl rfl rfl rfl rfl ?_
  refine j_bif_eq 22 12 dX7_build_9 (fun q9 => ?_) (fun q9 => ?_)
  · omega
  · refine j_iload_2 13 dX7_build_12 rfl ?_
    refine j_iconst 14 dX7_build_13 ?_
    refine j_bipush 16 dX7_build_14 (by decide +kernel) ?_
    refine j_callSi 19 Y_X7_in [] [_, _, _] (c_X7_in E _ _ _ (by first | with_reducible assumption | with_reducible exact iI_rng _ | exact ⟨by omega, by omega⟩) (by first | with_reducible assumption | with_reducible exact iI_rng _ | exact ⟨by omega, by omega⟩) (by first | with_reducible assumption | with_reducible exact iI_rng _ | exact ⟨by omega, by omega⟩)) m_X7_in wml_X7_56 dX7_build_16 rfl rfl rfl rfl rfl rfl rfl ?_
    refine j_bif_ne 24 22 dX7_build_19 (fun q19 => ?_) (fun q19 => ?_)
    · refine j_aload_0 25 dX7_build_24 rfl ?_
      refine j_get 28 0 gf_X7_16 dX7_build_25 rfl rfl ?_
      refine j_iload_1 29 dX7_build_28 rfl ?_
      refine j_ialdw 30 2 _ (rn r) dX7_build_29 rfl rfl rfl (by omega) rfl ?_
      refine j_if_ge 39 33 dX7_build_30 (by first | with_reducible exact iI_rng _ | with_reducible exact bI_r _ | exact ⟨by omega, by omega⟩) (fun q30 => ?_) (fun q30 => ?_)
      · refine j_aload_0 40 dX7_build_39 rfl ?_
        refine j_get 43 0 gf_X7_16 dX7_build_40 rfl rfl ?_
        refine j_iload_1 44 dX7_build_43 rfl ?_
        refine j_ialdw 45 2 _ (rn r) dX7_build_44 rfl rfl rfl (by omega) rfl ?_
        refine j_if_ne 54 48 dX7_build_45 (by first | with_reducible exact iI_rng _ | with_reducible exact bI_r _ | exact ⟨by omega, by omega⟩) (fun q45 => ?_) (fun q45 => ?_)
        · omega
        · refine j_aload_0 49 dX7_build_48 rfl ?_
          refine j_iconst 50 dX7_build_49 ?_
          refine j_callV 53 Y_X7_found [0, 1] [_] (c_X7_found E _ _ _ _ _ _ _ _ _ _ _ _ _ _ _ _ _ _ _ _ _ _ _ _ 3 (by decide)) m_X7_found wml_X7_64 dX7_build_50 0 rfl rfl rfl rfl rfl rfl rfl rfl rfl (fun r N h => by obtain ⟨rfl, rfl⟩ := h; rfl) (fun r N h => ?_)
          obtain ⟨rfl, rfl⟩ := h
          obtain rfl : c = 3 := by omega
          exact j_iret dX7_build_53 rfl rfl ⟨rfl, rfl⟩
      · refine j_aload_0 34 dX7_build_33 rfl ?_
        refine j_iconst 35 dX7_build_34 ?_
        refine j_callV 38 Y_X7_found [0, 1] [_] (c_X7_found E _ _ _ _ _ _ _ _ _ _ _ _ _ _ _ _ _ _ _ _ _ _ _ _ 1 (by decide)) m_X7_found wml_X7_64 dX7_build_35 0 rfl rfl rfl rfl rfl rfl rfl rfl rfl (fun r N h => by obtain ⟨rfl, rfl⟩ := h; rfl) (fun r N h => ?_)
        obtain ⟨rfl, rfl⟩ := h
        obtain rfl : c = 1 := by omega
        exact j_iret dX7_build_38 rfl rfl ⟨rfl, rfl⟩
    · omega

set_option maxRecDepth 100000 in
set_option maxHeartbeats 4000000 in
theorem lp7_build (E : jD) (fnd : Int) (ask : Int) (mm : Int) (um : Int) (nd : Int) (m0 : Nat) (m1 : Nat) (m2 : Nat) (m3 : Nat) (m4 : Nat) (m5 : Nat) (m6 : Nat) (m7 : Nat) (m8 : Nat) (m9 : Nat) (m10 : Nat) (m11 : Nat) (m12 : Nat) (pd : Int) (pal : Int) (rn : Nat → Int) (rw0 : Nat → Int32) (it : Nat → Int32) (md0 : Nat → Int32) (pi : Nat → Int32) (r q n2 : Nat) (hr4 : r < 4) (hn : 1 ≤ n2 ∧ n2 ≤ 48) (hw : 1 ≤ q ∧ q ≤ 6) : ∀ (d : Nat) (k : Nat), n2 - k < d → (k ≤ n2) → J E Y_X7_build (jZm E Y_X7_build (fun rr N0 => ∃ pd2 pi2, rr = some (.int (iI ((nB n2 q : Nat) : Int))) ∧ N0 = [(m0, jO 7 [.int (iI 0), .int (iI ask), .int (iI fnd), .ref m1, .ref m2, .ref m3, .int (iI (n2 : Int)), .int (iI (q : Int)), .ref m4, .ref m5, .int (iI (imB (tI (cpF rw0 it (48 * r) 0 n2)) n2 q (fa (iI 0) 256 md0) (nB n2 q)).2), .ref m6, .ref m7, .int (iI 0), .ref m8, .ref m9, .ref m10, .ref m11, .int (iI pd2), .int (iI nd), .ref m12, .int (iI pal)]), (m2, jA E 192 rw0), (m3, jA E 4 (aI rn)), (m4, jA E 48 (cpF rw0 it (48 * r) 0 n2)), (m5, jA E 256 (imB (tI (cpF rw0 it (48 * r) 0 n2)) n2 q (fa (iI 0) 256 md0) (nB n2 q)).1), (m11, jA E 48 pi2)])) 0 0 71 [(0, .ref m0), (1, .int (iI (r : Int))), (2, .int (iI (q : Int))), (3, .int (iI (k : Int)))] [] [(m0, jO 7 [.int (iI 0), .int (iI ask), .int (iI fnd), .ref m1, .ref m2, .ref m3, .int (iI (n2 : Int)), .int (iI (q : Int)), .ref m4, .ref m5, .int (iI mm), .ref m6, .ref m7, .int (iI um), .ref m8, .ref m9, .ref m10, .ref m11, .int (iI pd), .int (iI nd), .ref m12, .int (iI pal)]), (m2, jA E 192 rw0), (m3, jA E 4 (aI rn)), (m4, jA E 48 (cpF rw0 it (48 * r) 0 k)), (m5, jA E 256 md0), (m11, jA E 48 pi)] := by
  intro d
  induction d with
  | zero => intros; omega
  | succ d ih =>
    intro k hd hk
    refine j_iload_3 72 dX7_build_71 rfl ?_
    refine j_aload_0 73 dX7_build_72 rfl ?_
    refine j_get 76 0 gf_X7_81 dX7_build_73 rfl rfl ?_
    refine j_icmp_ge 102 79 dX7_build_76 (by first | with_reducible exact iI_rng _ | with_reducible exact bI_r _ | exact ⟨by omega, by omega⟩) (by first | with_reducible exact iI_rng _ | with_reducible exact bI_r _ | exact ⟨by omega, by omega⟩) (fun q76 => ?_) (fun q76 => ?_)
    · obtain rfl : n2 = k := by omega
      refine j_aload_0 103 dX7_build_102 rfl ?_
      refine j_callV 106 Y_X7_makesAll [0, 3, 4, 5] [] (c_X7_makesAll E _ _ _ _ _ _ _ _ _ _ _ _ _ _ _ _ _ _ _ _ _ _ _ _ n2 q hw hn.2) m_X7_makesAll wml_X7_110 dX7_build_103 0 rfl rfl rfl rfl rfl rfl rfl rfl rfl (fun r N h => by obtain ⟨_, _, rfl, rfl⟩ := h; rfl) (fun r N h => ?_)
      obtain ⟨pd2, pi2, rfl, rfl⟩ := h
      refine j_eqM (M' := [(m0, jO 7 [.int (iI 0), .int (iI ask), .int (iI fnd), .ref m1, .ref m2, .ref m3, .int (iI (n2 : Int)), .int (iI (q : Int)), .ref m4, .ref m5, .int (iI (imB (tI (cpF rw0 it (48 * r) 0 n2)) n2 q (fa (iI 0) 256 md0) (nB n2 q)).2), .ref m6, .ref m7, .int (iI 0), .ref m8, .ref m9, .ref m10, .ref m11, .int (iI pd2), .int (iI nd), .ref m12, .int (iI pal)]), (m2, jA E 192 rw0), (m3, jA E 4 (aI rn)), (m4, jA E 48 (cpF rw0 it (48 * r) 0 n2)), (m5, jA E 256 (imB (tI (cpF rw0 it (48 * r) 0 n2)) n2 q (fa (iI 0) 256 md0) (nB n2 q)).1), (m11, jA E 48 pi2)]) rfl ?_
      refine j_aload_0 107 dX7_build_106 rfl ?_
      refine j_callVi 110 Y_X7_blocks [0] [] (c_X7_blocks E _ _ _ _ _ _ _ _ _ _ _ _ _ _ _ _ _ _ _ _ _ n2 q (by omega)) m_X7_blocks wml_X7_99 dX7_build_107 0 rfl rfl rfl rfl rfl rfl rfl rfl rfl rfl ?_
      exact j_iret dX7_build_110 rfl rfl ⟨pd2, pi2, rfl, rfl⟩
    · refine j_aload_0 80 dX7_build_79 rfl ?_
      refine j_get 83 0 gf_X7_19 dX7_build_80 rfl rfl ?_
      refine j_iload_3 84 dX7_build_83 rfl ?_
      refine j_aload_0 85 dX7_build_84 rfl ?_
      refine j_get 88 0 gf_X7_13 dX7_build_85 rfl rfl ?_
      refine j_bipush 90 dX7_build_88 (by decide +kernel) ?_
      refine j_iload_1 91 dX7_build_90 rfl ?_
      refine j_imul 92 dX7_build_91 ?_
      refine j_iload_3 93 dX7_build_92 rfl ?_
      refine j_iadd 94 dX7_build_93 ?_
      refine j_ialdx 95 1 (48 * r + k) dX7_build_94 rfl rfl (by omega) (by omega) ?_
      refine j_iast 96 3 _ dX7_build_95 rfl rfl rfl (by omega) ?_
      refine j_eqM (M' := [(m0, jO 7 [.int (iI 0), .int (iI ask), .int (iI fnd), .ref m1, .ref m2, .ref m3, .int (iI (n2 : Int)), .int (iI (q : Int)), .ref m4, .ref m5, .int (iI mm), .ref m6, .ref m7, .int (iI um), .ref m8, .ref m9, .ref m10, .ref m11, .int (iI pd), .int (iI nd), .ref m12, .int (iI pal)]), (m2, jA E 192 rw0), (m3, jA E 4 (aI rn)), (m4, jA E 48 (cpF rw0 it (48 * r) 0 (k + 1))), (m5, jA E 256 md0), (m11, jA E 48 pi)]) (by rw [← cpF_s, Nat.zero_add]; rfl) ?_
      refine j_iinc 99 (lv' := [(0, _), (1, _), (2, _), (3, _)]) dX7_build_96 rfl rfl ⟨rfl, rfl⟩ ?_
      refine j_goto 71 dX7_build_99 ?_
      exact ih (k + 1) (by omega) (by omega)

set_option maxRecDepth 100000 in
set_option maxHeartbeats 4000000 in
theorem c_X7_build_ok (E : jD) (fnd : Int) (ask : Int) (wd : Int) (n : Int) (mm : Int) (um : Int) (nd : Int) (m0 : Nat) (m1 : Nat) (m2 : Nat) (m3 : Nat) (m4 : Nat) (m5 : Nat) (m6 : Nat) (m7 : Nat) (m8 : Nat) (m9 : Nat) (m10 : Nat) (m11 : Nat) (m12 : Nat) (thr : Int) (pd : Int) (pal : Int) (rn : Nat → Int) (rw0 : Nat → Int32) (it : Nat → Int32) (md0 : Nat → Int32) (pi : Nat → Int32) (r q n2 : Nat) (hr4 : r < 4) (hn : 1 ≤ n2 ∧ n2 ≤ 48) (hw : 1 ≤ q ∧ q ≤ 6) (hrn : aI rn r = iI (n2 : Int)) : MC E Y_X7_build [.ref m0, .int (iI (r : Int)), .int (iI (q : Int))] [(m0, jO 7 [.int (iI thr), .int (iI ask), .int (iI fnd), .ref m1, .ref m2, .ref m3, .int (iI n), .int (iI wd), .ref m4, .ref m5, .int (iI mm), .ref m6, .ref m7, .int (iI um), .ref m8, .ref m9, .ref m10, .ref m11, .int (iI pd), .int (iI nd), .ref m12, .int (iI pal)]), (m2, jA E 192 rw0), (m3, jA E 4 (aI rn)), (m4, jA E 48 it), (m5, jA E 256 md0), (m11, jA E 48 pi)] (fun rr N0 => ∃ pd2 pi2, rr = some (.int (iI ((nB n2 q : Nat) : Int))) ∧ N0 = [(m0, jO 7 [.int (iI 0), .int (iI ask), .int (iI fnd), .ref m1, .ref m2, .ref m3, .int (iI (n2 : Int)), .int (iI (q : Int)), .ref m4, .ref m5, .int (iI (imB (tI (cpF rw0 it (48 * r) 0 n2)) n2 q (fa (iI 0) 256 md0) (nB n2 q)).2), .ref m6, .ref m7, .int (iI 0), .ref m8, .ref m9, .ref m10, .ref m11, .int (iI pd2), .int (iI nd), .ref m12, .int (iI pal)]), (m2, jA E 192 rw0), (m3, jA E 4 (aI rn)), (m4, jA E 48 (cpF rw0 it (48 * r) 0 n2)), (m5, jA E 256 (imB (tI (cpF rw0 it (48 * r) 0 n2)) n2 q (fa (iI 0) 256 md0) (nB n2 q)).1), (m11, jA E 48 pi2)]) := by
  refine MC.of (by decide) rfl rfl ?_
  refine j_aload_0 1 dX7_build_0 rfl ?_
  refine j_iconst 2 dX7_build_1 ?_
  refine j_put 5 0 pf_X7_46 dX7_build_2 rfl ⟨rfl, rfl, rfl⟩ ?_
  refine j_iload_1 6 dX7_build_5 rfl ?_
  refine j_callSi 9 Y_X7_isRow [] [_] (c_X7_isRow E _ (by first | with_reducible assumption | with_reducible exact iI_rng _ | exact ⟨by omega, by omega⟩)) m_X7_isRow wml_X7_60 dX7_build_6 rfl rfl rfl rfl rfl rfl rfl ?_
  refine j_bif_eq 22 12 dX7_build_9 (fun q9 => ?_) (fun q9 => ?_)
  · omega
  · refine j_iload_2 13 dX7_build_12 rfl ?_
    refine j_iconst 14 dX7_build_13 ?_
    refine j_bipush 16 dX7_build_14 (by decide +kernel) ?_
    refine j_callSi 19 Y_X7_in [] [_, _, _] (c_X7_in E _ _ _ (by first | with_reducible assumption | with_reducible exact iI_rng _ | exact ⟨by omega, by omega⟩) (by first | with_reducible assumption | with_reducible exact iI_rng _ | exact ⟨by omega, by omega⟩) (by first | with_reducible assumption | with_reducible exact iI_rng _ | exact ⟨by omega, by omega⟩)) m_X7_in wml_X7_56 dX7_build_16 rfl rfl rfl rfl rfl rfl rfl ?_
    refine j_bif_ne 24 22 dX7_build_19 (fun q19 => ?_) (fun q19 => ?_)
    · refine j_aload_0 25 dX7_build_24 rfl ?_
      refine j_get 28 0 gf_X7_16 dX7_build_25 rfl rfl ?_
      refine j_iload_1 29 dX7_build_28 rfl ?_
      refine j_ialdw 30 2 _ ((n2 : Int)) dX7_build_29 rfl rfl rfl (by omega) hrn ?_
      refine j_if_ge 39 33 dX7_build_30 (by first | with_reducible exact iI_rng _ | with_reducible exact bI_r _ | exact ⟨by omega, by omega⟩) (fun q30 => ?_) (fun q30 => ?_)
      · refine j_aload_0 40 dX7_build_39 rfl ?_
        refine j_get 43 0 gf_X7_16 dX7_build_40 rfl rfl ?_
        refine j_iload_1 44 dX7_build_43 rfl ?_
        refine j_ialdw 45 2 _ ((n2 : Int)) dX7_build_44 rfl rfl rfl (by omega) hrn ?_
        refine j_if_ne 54 48 dX7_build_45 (by first | with_reducible exact iI_rng _ | with_reducible exact bI_r _ | exact ⟨by omega, by omega⟩) (fun q45 => ?_) (fun q45 => ?_)
        · refine j_aload_0 55 dX7_build_54 rfl ?_
          refine j_aload_0 56 dX7_build_55 rfl ?_
          refine j_get 59 0 gf_X7_16 dX7_build_56 rfl rfl ?_
          refine j_iload_1 60 dX7_build_59 rfl ?_
          refine j_ialdw 61 2 _ ((n2 : Int)) dX7_build_60 rfl rfl rfl (by omega) hrn ?_
          refine j_put 64 0 pf_X7_81 dX7_build_61 rfl ⟨rfl, rfl, rfl⟩ ?_
          refine j_aload_0 65 dX7_build_64 rfl ?_
          refine j_iload_2 66 dX7_build_65 rfl ?_
          refine j_put 69 0 pf_X7_78 dX7_build_66 rfl ⟨rfl, rfl, rfl⟩ ?_
          refine j_iconst 70 dX7_build_69 ?_
          refine j_istore_3 71 (lv' := [(0, _), (1, _), (2, _), (3, _)]) dX7_build_70 rfl ⟨rfl, rfl⟩ ?_
          refine j_eqM (M' := [(m0, jO 7 [.int (iI 0), .int (iI ask), .int (iI fnd), .ref m1, .ref m2, .ref m3, .int (iI (n2 : Int)), .int (iI (q : Int)), .ref m4, .ref m5, .int (iI mm), .ref m6, .ref m7, .int (iI um), .ref m8, .ref m9, .ref m10, .ref m11, .int (iI pd), .int (iI nd), .ref m12, .int (iI pal)]), (m2, jA E 192 rw0), (m3, jA E 4 (aI rn)), (m4, jA E 48 (cpF rw0 it (48 * r) 0 0)), (m5, jA E 256 md0), (m11, jA E 48 pi)]) (by rw [cpF_0]; rfl) ?_
          exact lp7_build E fnd ask mm um nd m0 m1 m2 m3 m4 m5 m6 m7 m8 m9 m10 m11 m12 pd pal rn rw0 it md0 pi r q n2 hr4 hn hw (n2 + 1) 0 (by omega) (by omega)
        · omega
      · omega
    · omega

set_option maxRecDepth 100000 in
set_option maxHeartbeats 4000000 in
theorem lp7_on (E : jD) (fnd : Int) (ask : Int) (mm : Int) (um : Int) (nd : Int) (m0 : Nat) (m1 : Nat) (m2 : Nat) (m3 : Nat) (m4 : Nat) (m5 : Nat) (m6 : Nat) (m7 : Nat) (m8 : Nat) (m9 : Nat) (m10 : Nat) (m11 : Nat) (m12 : Nat) (pd : Int) (pal : Int) (kni : Nat → Int) (kwi : Nat → Int) (it : Nat → Int32) (md0 : Nat → Int32) (kp : Nat → Int32) (pi : Nat → Int32) (r q n2 : Nat) (hr4 : r < 2) (hn : 1 ≤ n2 ∧ n2 ≤ 48) (hw : 1 ≤ q ∧ q ≤ 6) : ∀ (d : Nat) (k : Nat), n2 - k < d → (k ≤ n2) → J E Y_X7_on (jZm E Y_X7_on (fun rr N0 => ∃ pd2 pi2, rr = some (.int (iI (n2 : Int))) ∧ N0 = [(m0, jO 7 [.int (iI 0), .int (iI ask), .int (iI fnd), .ref m1, .ref m2, .ref m3, .int (iI (n2 : Int)), .int (iI (q : Int)), .ref m4, .ref m5, .int (iI (imB (tI (cpF kp it (48 * r) 0 n2)) n2 q (fa (iI 0) 256 md0) (nB n2 q)).2), .ref m6, .ref m7, .int (iI 0), .ref m8, .ref m9, .ref m10, .ref m11, .int (iI pd2), .int (iI nd), .ref m12, .int (iI pal)]), (m8, jA E 96 kp), (m9, jA E 2 (aI kni)), (m10, jA E 2 (aI kwi)), (m4, jA E 48 (cpF kp it (48 * r) 0 n2)), (m5, jA E 256 (imB (tI (cpF kp it (48 * r) 0 n2)) n2 q (fa (iI 0) 256 md0) (nB n2 q)).1), (m11, jA E 48 pi2)])) 0 0 50 [(0, .ref m0), (1, .int (iI (r : Int))), (2, .int (iI (k : Int)))] [] [(m0, jO 7 [.int (iI 0), .int (iI ask), .int (iI fnd), .ref m1, .ref m2, .ref m3, .int (iI (n2 : Int)), .int (iI (q : Int)), .ref m4, .ref m5, .int (iI mm), .ref m6, .ref m7, .int (iI um), .ref m8, .ref m9, .ref m10, .ref m11, .int (iI pd), .int (iI nd), .ref m12, .int (iI pal)]), (m8, jA E 96 kp), (m9, jA E 2 (aI kni)), (m10, jA E 2 (aI kwi)), (m4, jA E 48 (cpF kp it (48 * r) 0 k)), (m5, jA E 256 md0), (m11, jA E 48 pi)] := by
  intro d
  induction d with
  | zero => intros; omega
  | succ d ih =>
    intro k hd hk
    refine j_iload_2 51 dX7_on_50 rfl ?_
    refine j_aload_0 52 dX7_on_51 rfl ?_
    refine j_get 55 0 gf_X7_81 dX7_on_52 rfl rfl ?_
    refine j_icmp_ge 81 58 dX7_on_55 (by first | with_reducible exact iI_rng _ | with_reducible exact bI_r _ | exact ⟨by omega, by omega⟩) (by first | with_reducible exact iI_rng _ | with_reducible exact bI_r _ | exact ⟨by omega, by omega⟩) (fun q55 => ?_) (fun q55 => ?_)
    · obtain rfl : n2 = k := by omega
      refine j_aload_0 82 dX7_on_81 rfl ?_
      refine j_callV 85 Y_X7_makesAll [0, 4, 5, 6] [] (c_X7_makesAll E _ _ _ _ _ _ _ _ _ _ _ _ _ _ _ _ _ _ _ _ _ _ _ _ n2 q hw hn.2) m_X7_makesAll wml_X7_110 dX7_on_82 0 rfl rfl rfl rfl rfl rfl rfl rfl rfl (fun r N h => by obtain ⟨_, _, rfl, rfl⟩ := h; rfl) (fun r N h => ?_)
      obtain ⟨pd2, pi2, rfl, rfl⟩ := h
      refine j_eqM (M' := [(m0, jO 7 [.int (iI 0), .int (iI ask), .int (iI fnd), .ref m1, .ref m2, .ref m3, .int (iI (n2 : Int)), .int (iI (q : Int)), .ref m4, .ref m5, .int (iI (imB (tI (cpF kp it (48 * r) 0 n2)) n2 q (fa (iI 0) 256 md0) (nB n2 q)).2), .ref m6, .ref m7, .int (iI 0), .ref m8, .ref m9, .ref m10, .ref m11, .int (iI pd2), .int (iI nd), .ref m12, .int (iI pal)]), (m8, jA E 96 kp), (m9, jA E 2 (aI kni)), (m10, jA E 2 (aI kwi)), (m4, jA E 48 (cpF kp it (48 * r) 0 n2)), (m5, jA E 256 (imB (tI (cpF kp it (48 * r) 0 n2)) n2 q (fa (iI 0) 256 md0) (nB n2 q)).1), (m11, jA E 48 pi2)]) rfl ?_
      refine j_aload_0 86 dX7_on_85 rfl ?_
      refine j_get 89 0 gf_X7_81 dX7_on_86 rfl rfl ?_
      exact j_iret dX7_on_89 rfl rfl ⟨pd2, pi2, rfl, rfl⟩
    · refine j_aload_0 59 dX7_on_58 rfl ?_
      refine j_get 62 0 gf_X7_19 dX7_on_59 rfl rfl ?_
      refine j_iload_2 63 dX7_on_62 rfl ?_
      refine j_aload_0 64 dX7_on_63 rfl ?_
      refine j_get 67 0 gf_X7_31 dX7_on_64 rfl rfl ?_
      refine j_bipush 69 dX7_on_67 (by decide +kernel) ?_
      refine j_iload_1 70 dX7_on_69 rfl ?_
      refine j_imul 71 dX7_on_70 ?_
      refine j_iload_2 72 dX7_on_71 rfl ?_
      refine j_iadd 73 dX7_on_72 ?_
      refine j_ialdx 74 1 (48 * r + k) dX7_on_73 rfl rfl (by omega) (by omega) ?_
      refine j_iast 75 4 _ dX7_on_74 rfl rfl rfl (by omega) ?_
      refine j_eqM (M' := [(m0, jO 7 [.int (iI 0), .int (iI ask), .int (iI fnd), .ref m1, .ref m2, .ref m3, .int (iI (n2 : Int)), .int (iI (q : Int)), .ref m4, .ref m5, .int (iI mm), .ref m6, .ref m7, .int (iI um), .ref m8, .ref m9, .ref m10, .ref m11, .int (iI pd), .int (iI nd), .ref m12, .int (iI pal)]), (m8, jA E 96 kp), (m9, jA E 2 (aI kni)), (m10, jA E 2 (aI kwi)), (m4, jA E 48 (cpF kp it (48 * r) 0 (k + 1))), (m5, jA E 256 md0), (m11, jA E 48 pi)]) (by rw [← cpF_s, Nat.zero_add]; rfl) ?_
      refine j_iinc 78 (lv' := [(0, _), (1, _), (2, _)]) dX7_on_75 rfl rfl ⟨rfl, rfl⟩ ?_
      refine j_goto 50 dX7_on_78 ?_
      exact ih (k + 1) (by omega) (by omega)

set_option maxRecDepth 100000 in
set_option maxHeartbeats 4000000 in
theorem c_X7_on_ok (E : jD) (fnd : Int) (ask : Int) (wd : Int) (n : Int) (mm : Int) (um : Int) (nd : Int) (m0 : Nat) (m1 : Nat) (m2 : Nat) (m3 : Nat) (m4 : Nat) (m5 : Nat) (m6 : Nat) (m7 : Nat) (m8 : Nat) (m9 : Nat) (m10 : Nat) (m11 : Nat) (m12 : Nat) (thr : Int) (pd : Int) (pal : Int) (kni : Nat → Int) (kwi : Nat → Int) (it : Nat → Int32) (md0 : Nat → Int32) (kp : Nat → Int32) (pi : Nat → Int32) (r q n2 : Nat) (hr4 : r < 2) (hn : 1 ≤ n2 ∧ n2 ≤ 48) (hw : 1 ≤ q ∧ q ≤ 6) (hrn : aI kni r = iI (n2 : Int)) (hkw : aI kwi r = iI (q : Int)) : MC E Y_X7_on [.ref m0, .int (iI (r : Int))] [(m0, jO 7 [.int (iI thr), .int (iI ask), .int (iI fnd), .ref m1, .ref m2, .ref m3, .int (iI n), .int (iI wd), .ref m4, .ref m5, .int (iI mm), .ref m6, .ref m7, .int (iI um), .ref m8, .ref m9, .ref m10, .ref m11, .int (iI pd), .int (iI nd), .ref m12, .int (iI pal)]), (m8, jA E 96 kp), (m9, jA E 2 (aI kni)), (m10, jA E 2 (aI kwi)), (m4, jA E 48 it), (m5, jA E 256 md0), (m11, jA E 48 pi)] (fun rr N0 => ∃ pd2 pi2, rr = some (.int (iI (n2 : Int))) ∧ N0 = [(m0, jO 7 [.int (iI 0), .int (iI ask), .int (iI fnd), .ref m1, .ref m2, .ref m3, .int (iI (n2 : Int)), .int (iI (q : Int)), .ref m4, .ref m5, .int (iI (imB (tI (cpF kp it (48 * r) 0 n2)) n2 q (fa (iI 0) 256 md0) (nB n2 q)).2), .ref m6, .ref m7, .int (iI 0), .ref m8, .ref m9, .ref m10, .ref m11, .int (iI pd2), .int (iI nd), .ref m12, .int (iI pal)]), (m8, jA E 96 kp), (m9, jA E 2 (aI kni)), (m10, jA E 2 (aI kwi)), (m4, jA E 48 (cpF kp it (48 * r) 0 n2)), (m5, jA E 256 (imB (tI (cpF kp it (48 * r) 0 n2)) n2 q (fa (iI 0) 256 md0) (nB n2 q)).1), (m11, jA E 48 pi2)]) := by
  refine MC.of (by decide) rfl rfl ?_
  refine j_aload_0 1 dX7_on_0 rfl ?_
  refine j_iconst 2 dX7_on_1 ?_
  refine j_put 5 0 pf_X7_46 dX7_on_2 rfl ⟨rfl, rfl, rfl⟩ ?_
  refine j_iload_1 6 dX7_on_5 rfl ?_
  refine j_iconst 7 dX7_on_6 ?_
  refine j_iconst 8 dX7_on_7 ?_
  refine j_callSi 11 Y_X7_in [] [_, _, _] (c_X7_in E _ _ _ (by first | with_reducible assumption | with_reducible exact iI_rng _ | exact ⟨by omega, by omega⟩) (by first | with_reducible assumption | with_reducible exact iI_rng _ | exact ⟨by omega, by omega⟩) (by first | with_reducible assumption | with_reducible exact iI_rng _ | exact ⟨by omega, by omega⟩)) m_X7_in wml_X7_56 dX7_on_8 rfl rfl rfl rfl rfl rfl rfl ?_
  refine j_bif_ne 16 14 dX7_on_11 (fun q11 => ?_) (fun q11 => ?_)
  · refine j_aload_0 17 dX7_on_16 rfl ?_
    refine j_get 20 0 gf_X7_34 dX7_on_17 rfl rfl ?_
    refine j_iload_1 21 dX7_on_20 rfl ?_
    refine j_ialdw 22 2 _ ((n2 : Int)) dX7_on_21 rfl rfl rfl (by omega) hrn ?_
    refine j_if_ne 28 25 dX7_on_22 (by first | with_reducible exact iI_rng _ | with_reducible exact bI_r _ | exact ⟨by omega, by omega⟩) (fun q22 => ?_) (fun q22 => ?_)
    · refine j_aload_0 29 dX7_on_28 rfl ?_
      refine j_aload_0 30 dX7_on_29 rfl ?_
      refine j_get 33 0 gf_X7_34 dX7_on_30 rfl rfl ?_
      refine j_iload_1 34 dX7_on_33 rfl ?_
      refine j_ialdw 35 2 _ ((n2 : Int)) dX7_on_34 rfl rfl rfl (by omega) hrn ?_
      refine j_put 38 0 pf_X7_81 dX7_on_35 rfl ⟨rfl, rfl, rfl⟩ ?_
      refine j_aload_0 39 dX7_on_38 rfl ?_
      refine j_aload_0 40 dX7_on_39 rfl ?_
      refine j_get 43 0 gf_X7_37 dX7_on_40 rfl rfl ?_
      refine j_iload_1 44 dX7_on_43 rfl ?_
      refine j_ialdw 45 3 _ ((q : Int)) dX7_on_44 rfl rfl rfl (by omega) hkw ?_
      refine j_put 48 0 pf_X7_78 dX7_on_45 rfl ⟨rfl, rfl, rfl⟩ ?_
      refine j_iconst 49 dX7_on_48 ?_
      refine j_istore_2 50 (lv' := [(0, _), (1, _), (2, _)]) dX7_on_49 rfl ⟨rfl, rfl⟩ ?_
      refine j_eqM (M' := [(m0, jO 7 [.int (iI 0), .int (iI ask), .int (iI fnd), .ref m1, .ref m2, .ref m3, .int (iI (n2 : Int)), .int (iI (q : Int)), .ref m4, .ref m5, .int (iI mm), .ref m6, .ref m7, .int (iI um), .ref m8, .ref m9, .ref m10, .ref m11, .int (iI pd), .int (iI nd), .ref m12, .int (iI pal)]), (m8, jA E 96 kp), (m9, jA E 2 (aI kni)), (m10, jA E 2 (aI kwi)), (m4, jA E 48 (cpF kp it (48 * r) 0 0)), (m5, jA E 256 md0), (m11, jA E 48 pi)]) (by rw [cpF_0]; rfl) ?_
      exact lp7_on E fnd ask mm um nd m0 m1 m2 m3 m4 m5 m6 m7 m8 m9 m10 m11 m12 pd pal kni kwi it md0 kp pi r q n2 hr4 hn hw (n2 + 1) 0 (by omega) (by omega)
    · omega
  · omega

set_option maxRecDepth 100000 in
set_option maxHeartbeats 4000000 in
theorem c_X7_keep_bad (E : jD) (fnd : Int) (ask : Int) (wd : Int) (n : Int) (mm : Int) (um : Int) (nd : Int) (m0 : Nat) (m1 : Nat) (m2 : Nat) (m3 : Nat) (m4 : Nat) (m5 : Nat) (m6 : Nat) (m7 : Nat) (m8 : Nat) (m9 : Nat) (m10 : Nat) (m11 : Nat) (m12 : Nat) (thr : Int) (pd : Int) (pal : Int) (k : Int) (hk : jr k) (hb : k < 0 ∨ 2 ≤ k) : MC E Y_X7_keep [.ref m0, .int (iI k)] [(m0, jO 7 [.int (iI thr), .int (iI ask), .int (iI fnd), .ref m1, .ref m2, .ref m3, .int (iI n), .int (iI wd), .ref m4, .ref m5, .int (iI mm), .ref m6, .ref m7, .int (iI um), .ref m8, .ref m9, .ref m10, .ref m11, .int (iI pd), .int (iI nd), .ref m12, .int (iI pal)])] (fun rr N0 => rr = some (.int (iI (-1))) ∧ N0 = [(m0, jO 7 [.int (iI 0), .int (iI ask), .int (iI fnd), .ref m1, .ref m2, .ref m3, .int (iI n), .int (iI wd), .ref m4, .ref m5, .int (iI mm), .ref m6, .ref m7, .int (iI um), .ref m8, .ref m9, .ref m10, .ref m11, .int (iI pd), .int (iI nd), .ref m12, .int (iI pal)])]) := by
  refine MC.of (by decide) rfl rfl ?_
  refine j_aload_0 1 dX7_keep_0 rfl ?_
  refine j_iconst 2 dX7_keep_1 ?_
  refine j_put 5 0 pf_X7_46 dX7_keep_2 rfl ⟨rfl, rfl, rfl⟩ ?_
  refine j_iload_1 6 dX7_keep_5 rfl ?_
  refine j_iconst 7 dX7_keep_6 ?_
  refine j_iconst 8 dX7_keep_7 ?_
  refine j_callSi 11 Y_X7_in [] [_, _, _] (c_X7_in E _ _ _ (by first | with_reducible assumption | with_reducible exact iI_rng _ | exact ⟨by omega, by omega⟩) (by first | with_reducible assumption | with_reducible exact iI_rng _ | exact ⟨by omega, by omega⟩) (by first | with_reducible assumption | with_reducible exact iI_rng _ | exact ⟨by omega, by omega⟩)) m_X7_in wml_X7_56 dX7_keep_8 rfl rfl rfl rfl rfl rfl rfl ?_
  refine j_bif_ne 16 14 dX7_keep_11 (fun q11 => ?_) (fun q11 => ?_)
  · omega
  · refine j_iconst 15 dX7_keep_14 ?_
    exact j_iret dX7_keep_15 rfl rfl ⟨rfl, rfl⟩

set_option maxRecDepth 100000 in
set_option maxHeartbeats 4000000 in
theorem c_X7_on_bad (E : jD) (fnd : Int) (ask : Int) (wd : Int) (n : Int) (mm : Int) (um : Int) (nd : Int) (m0 : Nat) (m1 : Nat) (m2 : Nat) (m3 : Nat) (m4 : Nat) (m5 : Nat) (m6 : Nat) (m7 : Nat) (m8 : Nat) (m9 : Nat) (m10 : Nat) (m11 : Nat) (m12 : Nat) (thr : Int) (pd : Int) (pal : Int) (k : Int) (hk : jr k) (hb : k < 0 ∨ 2 ≤ k) : MC E Y_X7_on [.ref m0, .int (iI k)] [(m0, jO 7 [.int (iI thr), .int (iI ask), .int (iI fnd), .ref m1, .ref m2, .ref m3, .int (iI n), .int (iI wd), .ref m4, .ref m5, .int (iI mm), .ref m6, .ref m7, .int (iI um), .ref m8, .ref m9, .ref m10, .ref m11, .int (iI pd), .int (iI nd), .ref m12, .int (iI pal)])] (fun rr N0 => rr = some (.int (iI (-1))) ∧ N0 = [(m0, jO 7 [.int (iI 0), .int (iI ask), .int (iI fnd), .ref m1, .ref m2, .ref m3, .int (iI n), .int (iI wd), .ref m4, .ref m5, .int (iI mm), .ref m6, .ref m7, .int (iI um), .ref m8, .ref m9, .ref m10, .ref m11, .int (iI pd), .int (iI nd), .ref m12, .int (iI pal)])]) := by
  refine MC.of (by decide) rfl rfl ?_
  refine j_aload_0 1 dX7_on_0 rfl ?_
  refine j_iconst 2 dX7_on_1 ?_
  refine j_put 5 0 pf_X7_46 dX7_on_2 rfl ⟨rfl, rfl, rfl⟩ ?_
  refine j_iload_1 6 dX7_on_5 rfl ?_
  refine j_iconst 7 dX7_on_6 ?_
  refine j_iconst 8 dX7_on_7 ?_
  refine j_callSi 11 Y_X7_in [] [_, _, _] (c_X7_in E _ _ _ (by first | with_reducible assumption | with_reducible exact iI_rng _ | exact ⟨by omega, by omega⟩) (by first | with_reducible assumption | with_reducible exact iI_rng _ | exact ⟨by omega, by omega⟩) (by first | with_reducible assumption | with_reducible exact iI_rng _ | exact ⟨by omega, by omega⟩)) m_X7_in wml_X7_56 dX7_on_8 rfl rfl rfl rfl rfl rfl rfl ?_
  refine j_bif_ne 16 14 dX7_on_11 (fun q11 => ?_) (fun q11 => ?_)
  · omega
  · refine j_iconst 15 dX7_on_14 ?_
    exact j_iret dX7_on_15 rfl rfl ⟨rfl, rfl⟩

set_option maxRecDepth 100000 in
set_option maxHeartbeats 4000000 in
theorem c_X7_keep_no (E : jD) (fnd : Int) (ask : Int) (wd : Int) (n : Int) (mm : Int) (um : Int) (nd : Int) (m0 : Nat) (m1 : Nat) (m2 : Nat) (m3 : Nat) (m4 : Nat) (m5 : Nat) (m6 : Nat) (m7 : Nat) (m8 : Nat) (m9 : Nat) (m10 : Nat) (m11 : Nat) (m12 : Nat) (thr : Int) (pd : Int) (pal : Int) (k : Nat) (c : Int) (hk2 : k < 2) (hn : n = 0) (hc : c = -2) : MC E Y_X7_keep [.ref m0, .int (iI (k : Int))] [(m0, jO 7 [.int (iI thr), .int (iI ask), .int (iI fnd), .ref m1, .ref m2, .ref m3, .int (iI n), .int (iI wd), .ref m4, .ref m5, .int (iI mm), .ref m6, .ref m7, .int (iI um), .ref m8, .ref m9, .ref m10, .ref m11, .int (iI pd), .int (iI nd), .ref m12, .int (iI pal)])] (fun rr N0 => rr = some (.int (iI (rz c))) ∧ N0 = [(m0, jO 7 [.int (iI 0), .int (iI ask), .int (iI fnd), .ref m1, .ref m2, .ref m3, .int (iI n), .int (iI wd), .ref m4, .ref m5, .int (iI mm), .ref m6, .ref m7, .int (iI um), .ref m8, .ref m9, .ref m10, .ref m11, .int (iI pd), .int (iI nd), .ref m12, .int (iI pal)])]) := by
  refine MC.of (by decide) rfl rfl ?_
  refine j_aload_0 1 dX7_keep_0 rfl ?_
  refine j_iconst 2 dX7_keep_1 ?_
  refine j_put 5 0 pf_X7_46 dX7_keep_2 rfl ⟨rfl, rfl, rfl⟩ ?_
  refine j_iload_1 6 dX7_keep_5 rfl ?_
  refine j_iconst 7 dX7_keep_6 ?_
  refine j_iconst 8 dX7_keep_7 ?_
  refine j_callSi 11 Y_X7_in [] [_, _, _] (c_X7_in E _ _ _ (by first | with_reducible assumption | with_reducible exact iI_rng _ | exact ⟨by omega, by omega⟩) (by first | with_reducible assumption | with_reducible exact iI_rng _ | exact ⟨by omega, by omega⟩) (by first | with_reducible assumption | with_reducible exact iI_rng _ | exact ⟨by omega, by omega⟩)) m_X7_in wml_X7_56 dX7_keep_8 rfl rfl rfl rfl rfl rfl rfl ?_
  refine j_bif_ne 16 14 dX7_keep_11 (fun q11 => ?_) (fun q11 => ?_)
  · refine j_aload_0 17 dX7_keep_16 rfl ?_
    refine j_get 20 0 gf_X7_81 dX7_keep_17 rfl rfl ?_
    refine j_if_ne 26 23 dX7_keep_20 (by first | with_reducible exact iI_rng _ | with_reducible exact bI_r _ | exact ⟨by omega, by omega⟩) (fun q20 => ?_) (fun q20 => ?_)
    · omega
    · refine j_bipush 25 dX7_keep_23 (by decide +kernel) ?_
      obtain rfl : c = -2 := by omega
      exact j_iret dX7_keep_25 rfl rfl ⟨rfl, rfl⟩
  · omega

set_option maxRecDepth 100000 in
set_option maxHeartbeats 4000000 in
theorem c_X7_on_no (E : jD) (fnd : Int) (ask : Int) (wd : Int) (n : Int) (mm : Int) (um : Int) (nd : Int) (m0 : Nat) (m1 : Nat) (m2 : Nat) (m3 : Nat) (m4 : Nat) (m5 : Nat) (m6 : Nat) (m7 : Nat) (m8 : Nat) (m9 : Nat) (m10 : Nat) (m11 : Nat) (m12 : Nat) (thr : Int) (pd : Int) (pal : Int) (kni : Nat → Int) (k : Nat) (c : Int) (hk2 : k < 2) (hn : kni k = 0) (hc : c = -2) : MC E Y_X7_on [.ref m0, .int (iI (k : Int))] [(m0, jO 7 [.int (iI thr), .int (iI ask), .int (iI fnd), .ref m1, .ref m2, .ref m3, .int (iI n), .int (iI wd), .ref m4, .ref m5, .int (iI mm), .ref m6, .ref m7, .int (iI um), .ref m8, .ref m9, .ref m10, .ref m11, .int (iI pd), .int (iI nd), .ref m12, .int (iI pal)]), (m9, jA E 2 (aI kni))] (fun rr N0 => rr = some (.int (iI (rz c))) ∧ N0 = [(m0, jO 7 [.int (iI 0), .int (iI ask), .int (iI fnd), .ref m1, .ref m2, .ref m3, .int (iI n), .int (iI wd), .ref m4, .ref m5, .int (iI mm), .ref m6, .ref m7, .int (iI um), .ref m8, .ref m9, .ref m10, .ref m11, .int (iI pd), .int (iI nd), .ref m12, .int (iI pal)]), (m9, jA E 2 (aI kni))]) := by
  refine MC.of (by decide) rfl rfl ?_
  refine j_aload_0 1 dX7_on_0 rfl ?_
  refine j_iconst 2 dX7_on_1 ?_
  refine j_put 5 0 pf_X7_46 dX7_on_2 rfl ⟨rfl, rfl, rfl⟩ ?_
  refine j_iload_1 6 dX7_on_5 rfl ?_
  refine j_iconst 7 dX7_on_6 ?_
  refine j_iconst 8 dX7_on_7 ?_
  refine j_callSi 11 Y_X7_in [] [_, _, _] (c_X7_in E _ _ _ (by first | with_reducible assumption | with_reducible exact iI_rng _ | exact ⟨by omega, by omega⟩) (by first | with_reducible assumption | with_reducible exact iI_rng _ | exact ⟨by omega, by omega⟩) (by first | with_reducible assumption | with_reducible exact iI_rng _ | exact ⟨by omega, by omega⟩)) m_X7_in wml_X7_56 dX7_on_8 rfl rfl rfl rfl rfl rfl rfl ?_
  refine j_bif_ne 16 14 dX7_on_11 (fun q11 => ?_) (fun q11 => ?_)
  · refine j_aload_0 17 dX7_on_16 rfl ?_
    refine j_get 20 0 gf_X7_34 dX7_on_17 rfl rfl ?_
    refine j_iload_1 21 dX7_on_20 rfl ?_
    refine j_ialdw 22 1 _ (0) dX7_on_21 rfl rfl rfl (by omega) (by show iI (kni k) = _; rw [hn]) ?_
    refine j_if_ne 28 25 dX7_on_22 (by first | with_reducible exact iI_rng _ | with_reducible exact bI_r _ | exact ⟨by omega, by omega⟩) (fun q22 => ?_) (fun q22 => ?_)
    · omega
    · refine j_bipush 27 dX7_on_25 (by decide +kernel) ?_
      obtain rfl : c = -2 := by omega
      exact j_iret dX7_on_27 rfl rfl ⟨rfl, rfl⟩
  · omega

set_option maxRecDepth 100000 in
set_option maxHeartbeats 4000000 in
theorem lp7_keep (E : jD) (fnd : Int) (ask : Int) (mm : Int) (um : Int) (nd : Int) (m0 : Nat) (m1 : Nat) (m2 : Nat) (m3 : Nat) (m4 : Nat) (m5 : Nat) (m6 : Nat) (m7 : Nat) (m8 : Nat) (m9 : Nat) (m10 : Nat) (m11 : Nat) (m12 : Nat) (pd : Int) (pal : Int) (kni : Nat → Int) (kwi : Nat → Int) (it : Nat → Int32) (kp : Nat → Int32) (n wd k : Nat) (hk2 : k < 2) (hn : 1 ≤ n ∧ n ≤ 48) : ∀ (d : Nat) (q : Nat), n - q < d → (q ≤ n) → J E Y_X7_keep (jZm E Y_X7_keep (fun rr N0 => rr = some (.int (iI ((n : Int)))) ∧ N0 = [(m0, jO 7 [.int (iI 0), .int (iI ask), .int (iI fnd), .ref m1, .ref m2, .ref m3, .int (iI (n : Int)), .int (iI (wd : Int)), .ref m4, .ref m5, .int (iI mm), .ref m6, .ref m7, .int (iI um), .ref m8, .ref m9, .ref m10, .ref m11, .int (iI pd), .int (iI nd), .ref m12, .int (iI pal)]), (m4, jA E 48 it), (m8, jA E 96 (cpF it kp 0 (48 * k) n)), (m9, jA E 2 (aI (setI kni k (n : Int)))), (m10, jA E 2 (aI (setI kwi k (wd : Int))))])) 0 0 48 [(0, .ref m0), (1, .int (iI (k : Int))), (2, .int (iI (q : Int)))] [] [(m0, jO 7 [.int (iI 0), .int (iI ask), .int (iI fnd), .ref m1, .ref m2, .ref m3, .int (iI (n : Int)), .int (iI (wd : Int)), .ref m4, .ref m5, .int (iI mm), .ref m6, .ref m7, .int (iI um), .ref m8, .ref m9, .ref m10, .ref m11, .int (iI pd), .int (iI nd), .ref m12, .int (iI pal)]), (m4, jA E 48 it), (m8, jA E 96 (cpF it kp 0 (48 * k) q)), (m9, jA E 2 (aI (setI kni k (n : Int)))), (m10, jA E 2 (aI (setI kwi k (wd : Int))))] := by
  intro d
  induction d with
  | zero => intros; omega
  | succ d ih =>
    intro q hd hq
    refine j_iload_2 49 dX7_keep_48 rfl ?_
    refine j_aload_0 50 dX7_keep_49 rfl ?_
    refine j_get 53 0 gf_X7_81 dX7_keep_50 rfl rfl ?_
    refine j_icmp_ge 79 56 dX7_keep_53 (by first | with_reducible exact iI_rng _ | with_reducible exact bI_r _ | exact ⟨by omega, by omega⟩) (by first | with_reducible exact iI_rng _ | with_reducible exact bI_r _ | exact ⟨by omega, by omega⟩) (fun q53 => ?_) (fun q53 => ?_)
    · obtain rfl : n = q := by omega
      refine j_aload_0 80 dX7_keep_79 rfl ?_
      refine j_get 83 0 gf_X7_81 dX7_keep_80 rfl rfl ?_
      exact j_iret dX7_keep_83 rfl rfl ⟨rfl, rfl⟩
    · refine j_aload_0 57 dX7_keep_56 rfl ?_
      refine j_get 60 0 gf_X7_31 dX7_keep_57 rfl rfl ?_
      refine j_bipush 62 dX7_keep_60 (by decide +kernel) ?_
      refine j_iload_1 63 dX7_keep_62 rfl ?_
      refine j_imul 64 dX7_keep_63 ?_
      refine j_iload_2 65 dX7_keep_64 rfl ?_
      refine j_iadd 66 dX7_keep_65 ?_
      refine j_aload_0 67 dX7_keep_66 rfl ?_
      refine j_get 70 0 gf_X7_19 dX7_keep_67 rfl rfl ?_
      refine j_iload_2 71 dX7_keep_70 rfl ?_
      refine j_ialdx 72 1 _ dX7_keep_71 rfl rfl rfl (by omega) ?_
      refine j_iast 73 2 (48 * k + q) dX7_keep_72 rfl rfl (by omega) (by omega) ?_
      refine j_eqM (M' := [(m0, jO 7 [.int (iI 0), .int (iI ask), .int (iI fnd), .ref m1, .ref m2, .ref m3, .int (iI (n : Int)), .int (iI (wd : Int)), .ref m4, .ref m5, .int (iI mm), .ref m6, .ref m7, .int (iI um), .ref m8, .ref m9, .ref m10, .ref m11, .int (iI pd), .int (iI nd), .ref m12, .int (iI pal)]), (m4, jA E 48 it), (m8, jA E 96 (cpF it kp 0 (48 * k) (q + 1))), (m9, jA E 2 (aI (setI kni k (n : Int)))), (m10, jA E 2 (aI (setI kwi k (wd : Int))))]) (by rw [← cpF_s, Nat.zero_add]; rfl) ?_
      refine j_iinc 76 (lv' := [(0, _), (1, _), (2, _)]) dX7_keep_73 rfl rfl ⟨rfl, rfl⟩ ?_
      refine j_goto 48 dX7_keep_76 ?_
      exact ih (q + 1) (by omega) (by omega)

set_option maxRecDepth 100000 in
set_option maxHeartbeats 4000000 in
theorem c_X7_keep_ok (E : jD) (fnd : Int) (ask : Int) (mm : Int) (um : Int) (nd : Int) (m0 : Nat) (m1 : Nat) (m2 : Nat) (m3 : Nat) (m4 : Nat) (m5 : Nat) (m6 : Nat) (m7 : Nat) (m8 : Nat) (m9 : Nat) (m10 : Nat) (m11 : Nat) (m12 : Nat) (thr : Int) (pd : Int) (pal : Int) (kni : Nat → Int) (kwi : Nat → Int) (it : Nat → Int32) (kp : Nat → Int32) (n wd k : Nat) (hk2 : k < 2) (hn : 1 ≤ n ∧ n ≤ 48) : MC E Y_X7_keep [.ref m0, .int (iI (k : Int))] [(m0, jO 7 [.int (iI thr), .int (iI ask), .int (iI fnd), .ref m1, .ref m2, .ref m3, .int (iI (n : Int)), .int (iI (wd : Int)), .ref m4, .ref m5, .int (iI mm), .ref m6, .ref m7, .int (iI um), .ref m8, .ref m9, .ref m10, .ref m11, .int (iI pd), .int (iI nd), .ref m12, .int (iI pal)]), (m4, jA E 48 it), (m8, jA E 96 kp), (m9, jA E 2 (aI kni)), (m10, jA E 2 (aI kwi))] (fun rr N0 => rr = some (.int (iI ((n : Int)))) ∧ N0 = [(m0, jO 7 [.int (iI 0), .int (iI ask), .int (iI fnd), .ref m1, .ref m2, .ref m3, .int (iI (n : Int)), .int (iI (wd : Int)), .ref m4, .ref m5, .int (iI mm), .ref m6, .ref m7, .int (iI um), .ref m8, .ref m9, .ref m10, .ref m11, .int (iI pd), .int (iI nd), .ref m12, .int (iI pal)]), (m4, jA E 48 it), (m8, jA E 96 (cpF it kp 0 (48 * k) n)), (m9, jA E 2 (aI (setI kni k (n : Int)))), (m10, jA E 2 (aI (setI kwi k (wd : Int))))]) := by
  refine MC.of (by decide) rfl rfl ?_
  refine j_aload_0 1 dX7_keep_0 rfl ?_
  refine j_iconst 2 dX7_keep_1 ?_
  refine j_put 5 0 pf_X7_46 dX7_keep_2 rfl ⟨rfl, rfl, rfl⟩ ?_
  refine j_iload_1 6 dX7_keep_5 rfl ?_
  refine j_iconst 7 dX7_keep_6 ?_
  refine j_iconst 8 dX7_keep_7 ?_
  refine j_callSi 11 Y_X7_in [] [_, _, _] (c_X7_in E _ _ _ (by first | with_reducible assumption | with_reducible exact iI_rng _ | exact ⟨by omega, by omega⟩) (by first | with_reducible assumption | with_reducible exact iI_rng _ | exact ⟨by omega, by omega⟩) (by first | with_reducible assumption | with_reducible exact iI_rng _ | exact ⟨by omega, by omega⟩)) m_X7_in wml_X7_56 dX7_keep_8 rfl rfl rfl rfl rfl rfl rfl ?_
  refine j_bif_ne 16 14 dX7_keep_11 (fun q11 => ?_) (fun q11 => ?_)
  · refine j_aload_0 17 dX7_keep_16 rfl ?_
    refine j_get 20 0 gf_X7_81 dX7_keep_17 rfl rfl ?_
    refine j_if_ne 26 23 dX7_keep_20 (by first | with_reducible exact iI_rng _ | with_reducible exact bI_r _ | exact ⟨by omega, by omega⟩) (fun q20 => ?_) (fun q20 => ?_)
    · refine j_aload_0 27 dX7_keep_26 rfl ?_
      refine j_get 30 0 gf_X7_34 dX7_keep_27 rfl rfl ?_
      refine j_iload_1 31 dX7_keep_30 rfl ?_
      refine j_aload_0 32 dX7_keep_31 rfl ?_
      refine j_get 35 0 gf_X7_81 dX7_keep_32 rfl rfl ?_
      refine j_iast 36 3 _ dX7_keep_35 rfl rfl rfl (by omega) ?_
      refine j_aload_0 37 dX7_keep_36 rfl ?_
      refine j_get 40 0 gf_X7_37 dX7_keep_37 rfl rfl ?_
      refine j_iload_1 41 dX7_keep_40 rfl ?_
      refine j_aload_0 42 dX7_keep_41 rfl ?_
      refine j_get 45 0 gf_X7_78 dX7_keep_42 rfl rfl ?_
      refine j_iast 46 4 _ dX7_keep_45 rfl rfl rfl (by omega) ?_
      refine j_iconst 47 dX7_keep_46 ?_
      refine j_istore_2 48 (lv' := [(0, _), (1, _), (2, _)]) dX7_keep_47 rfl ⟨rfl, rfl⟩ ?_
      refine j_eqM (M' := [(m0, jO 7 [.int (iI 0), .int (iI ask), .int (iI fnd), .ref m1, .ref m2, .ref m3, .int (iI (n : Int)), .int (iI (wd : Int)), .ref m4, .ref m5, .int (iI mm), .ref m6, .ref m7, .int (iI um), .ref m8, .ref m9, .ref m10, .ref m11, .int (iI pd), .int (iI nd), .ref m12, .int (iI pal)]), (m4, jA E 48 it), (m8, jA E 96 (cpF it kp 0 (48 * k) 0)), (m9, jA E 2 (aI (setI kni k (n : Int)))), (m10, jA E 2 (aI (setI kwi k (wd : Int))))]) (by rw [cpF_0, ← aI_set, ← aI_set]; rfl) ?_
      exact lp7_keep E fnd ask mm um nd m0 m1 m2 m3 m4 m5 m6 m7 m8 m9 m10 m11 m12 pd pal kni kwi it kp n wd k hk2 hn (n + 1) 0 (by omega) (by omega)
    · omega
  · omega

set_option maxRecDepth 100000 in
set_option maxHeartbeats 4000000 in
theorem c_X7_put_lo (E : jD) (fnd : Int) (ask : Int) (mm : Int) (nd : Int) (m0 : Nat) (m1 : Nat) (m2 : Nat) (m3 : Nat) (m4 : Nat) (m5 : Nat) (m6 : Nat) (m7 : Nat) (m8 : Nat) (m9 : Nat) (m10 : Nat) (m11 : Nat) (m12 : Nat) (thr : Int) (pd : Int) (pal : Int) (it : Nat → Int32) (md0 : Nat → Int32) (ua : Nat → Int32) (uw : Nat → Int32) (pi : Nat → Int32) (n wd i : Nat) (v : Int32) (um : Nat) (hn : 0 ≤ (n : Int) ∧ n ≤ 48) (hw : 1 ≤ wd ∧ wd ≤ 6) (hi : i < n) (hm : um < 10) : MC E Y_X7_put [.ref m0, .int (iI (i : Int)), .int v] [(m0, jO 7 [.int (iI thr), .int (iI ask), .int (iI fnd), .ref m1, .ref m2, .ref m3, .int (iI (n : Int)), .int (iI (wd : Int)), .ref m4, .ref m5, .int (iI mm), .ref m6, .ref m7, .int (iI (um : Int)), .ref m8, .ref m9, .ref m10, .ref m11, .int (iI pd), .int (iI nd), .ref m12, .int (iI pal)]), (m4, jA E 48 it), (m5, jA E 256 md0), (m6, jA E 10 ua), (m7, jA E 10 uw), (m11, jA E 48 pi)] (fun rr N0 => ∃ pd2 pi2, rr = some (.int (iI (bI (¬ ((shB (tI (upd it i v)) n wd (i / wd)) : Int) = ((shB (tI it) n wd (i / wd)) : Int))))) ∧ N0 = [(m0, jO 7 [.int (iI 0), .int (iI (it i).toInt), .int (iI fnd), .ref m1, .ref m2, .ref m3, .int (iI (n : Int)), .int (iI (wd : Int)), .ref m4, .ref m5, .int (iI (imM md0 mm (shB (tI (upd it i v)) n wd (i / wd)))), .ref m6, .ref m7, .int (iI ((um : Int) + 1)), .ref m8, .ref m9, .ref m10, .ref m11, .int (iI pd2), .int (iI nd), .ref m12, .int (iI pal)]), (m4, jA E 48 (upd it i v)), (m5, jA E 256 (imW md0 (shB (tI (upd it i v)) n wd (i / wd)))), (m6, jA E 10 (upd ua um (iI (i : Int)))), (m7, jA E 10 (upd uw um (iI (it i).toInt))), (m11, jA E 48 pi2)]) := by
  refine MC.of (by decide) rfl rfl ?_
  refine j_aload_0 1 dX7_put_0 rfl ?_
  refine j_iconst 2 dX7_put_1 ?_
  refine j_put 5 0 pf_X7_46 dX7_put_2 rfl ⟨rfl, rfl, rfl⟩ ?_
  refine j_aload_0 6 dX7_put_5 rfl ?_
  refine j_iload_1 7 dX7_put_6 rfl ?_
  refine j_iload_1 8 dX7_put_7 rfl ?_
  refine j_callVi 11 Y_X7_againstRun [0] [_, _] (c_X7_againstRun_ok E _ _ _ _ _ _ _ _ _ _ _ _ _ _ _ _ _ _ _ _ _ _ _ _ _ (by omega) (by omega) (by omega)) m_X7_againstRun wml_X7_113 dX7_put_8 0 rfl rfl rfl rfl rfl rfl rfl rfl rfl rfl ?_
  refine j_istore_3 12 (lv' := [(0, _), (1, _), (2, _), (3, _)]) dX7_put_11 rfl ⟨rfl, rfl⟩ ?_
  refine j_iload_3 13 dX7_put_12 rfl ?_
  refine j_if_eq 18 16 dX7_put_13 (by first | with_reducible exact iI_rng _ | with_reducible exact bI_r _ | exact ⟨by omega, by omega⟩) (fun q13 => ?_) (fun q13 => ?_)
  · refine j_aload_0 19 dX7_put_18 rfl ?_
    refine j_get 22 0 gf_X7_96 dX7_put_19 rfl rfl ?_
    refine j_bipush 24 dX7_put_22 (by decide +kernel) ?_
    refine j_icmp_ne 81 27 dX7_put_24 (by first | with_reducible exact iI_rng _ | with_reducible exact bI_r _ | exact ⟨by omega, by omega⟩) (by first | with_reducible exact iI_rng _ | with_reducible exact bI_r _ | exact ⟨by omega, by omega⟩) (fun q24 => ?_) (fun q24 => ?_)
    · refine j_aload_0 82 dX7_put_81 rfl ?_
      refine j_get 85 0 gf_X7_25 dX7_put_82 rfl rfl ?_
      refine j_aload_0 86 dX7_put_85 rfl ?_
      refine j_get 89 0 gf_X7_96 dX7_put_86 rfl rfl ?_
      refine j_iload_1 90 dX7_put_89 rfl ?_
      refine j_iast 91 3 (um) dX7_put_90 rfl rfl (by omega) (by omega) ?_
      refine j_aload_0 92 dX7_put_91 rfl ?_
      refine j_get 95 0 gf_X7_28 dX7_put_92 rfl rfl ?_
      refine j_aload_0 96 dX7_put_95 rfl ?_
      refine j_get 99 0 gf_X7_96 dX7_put_96 rfl rfl ?_
      refine j_aload_0 100 dX7_put_99 rfl ?_
      refine j_get 103 0 gf_X7_19 dX7_put_100 rfl rfl ?_
      refine j_iload_1 104 dX7_put_103 rfl ?_
      refine j_iald 105 1 _ dX7_put_104 rfl rfl rfl (by omega) ?_
      refine j_iast 106 4 (um) dX7_put_105 rfl rfl (by omega) (by omega) ?_
      refine j_aload_0 107 dX7_put_106 rfl ?_
      refine j_dup 108 dX7_put_107 rfl ?_
      refine j_get 111 0 gf_X7_96 dX7_put_108 rfl rfl ?_
      refine j_iconst 112 dX7_put_111 ?_
      refine j_iadd 113 dX7_put_112 ?_
      refine j_put 116 0 pf_X7_96 dX7_put_113 rfl ⟨rfl, rfl, rfl⟩ ?_
      refine j_aload_0 117 dX7_put_116 rfl ?_
      refine j_get 120 0 gf_X7_19 dX7_put_117 rfl rfl ?_
      refine j_iload_1 121 dX7_put_120 rfl ?_
      refine j_iald 122 1 _ dX7_put_121 rfl rfl rfl (by omega) ?_
      refine j_istore 124 (lv' := [(0, _), (1, _), (2, _), (3, _), (4, _)]) dX7_put_122 rfl ⟨rfl, rfl⟩ ?_
      refine j_aload_0 125 dX7_put_124 rfl ?_
      refine j_iload_1 126 dX7_put_125 rfl ?_
      refine j_aload_0 127 dX7_put_126 rfl ?_
      refine j_get 130 0 gf_X7_78 dX7_put_127 rfl rfl ?_
      refine j_idiv 131 dX7_put_130 (by omega) (by omega) (by first | with_reducible exact iI_rng _ | with_reducible exact bI_r _ | exact ⟨by omega, by omega⟩) (by first | with_reducible exact iI_rng _ | with_reducible exact bI_r _ | exact ⟨by omega, by omega⟩) ?_
      refine j_top ((i / wd : Nat) : Int) rfl ?_
      refine j_callV 134 Y_X7_shapeOfBlock [0, 1, 5] [_] (c_X7_shapeOfBlock E _ _ _ _ _ _ _ _ _ _ _ _ _ _ _ _ _ _ _ _ _ _ _ n wd (i / wd) hw hn.2 (by have := Nat.div_mul_le_self i wd; omega) (by have := Nat.div_le_self i wd; omega)) m_X7_shapeOfBlock wml_X7_103 dX7_put_131 0 rfl rfl rfl rfl rfl rfl rfl rfl rfl (fun r N h => by obtain ⟨_, _, rfl, rfl⟩ := h; rfl) (fun r N h => ?_)
      obtain ⟨pd1, pi1, rfl, rfl⟩ := h
      refine j_eqM (M' := [(m0, jO 7 [.int (iI 0), .int (iI ask), .int (iI fnd), .ref m1, .ref m2, .ref m3, .int (iI (n : Int)), .int (iI (wd : Int)), .ref m4, .ref m5, .int (iI mm), .ref m6, .ref m7, .int (iI ((um : Int) + 1)), .ref m8, .ref m9, .ref m10, .ref m11, .int (iI pd1), .int (iI nd), .ref m12, .int (iI pal)]), (m4, jA E 48 it), (m5, jA E 256 md0), (m6, jA E 10 (upd ua um (iI (i : Int)))), (m7, jA E 10 (upd uw um (iI (it i).toInt))), (m11, jA E 48 pi1)]) rfl ?_
      refine j_istore 136 (lv' := [(0, _), (1, _), (2, _), (3, _), (4, _), (5, _)]) dX7_put_134 rfl ⟨rfl, rfl⟩ ?_
      refine j_aload_0 137 dX7_put_136 rfl ?_
      refine j_get 140 0 gf_X7_19 dX7_put_137 rfl rfl ?_
      refine j_iload_1 141 dX7_put_140 rfl ?_
      refine j_iload_2 142 dX7_put_141 rfl ?_
      refine j_iast 143 1 _ dX7_put_142 rfl rfl rfl (by omega) ?_
      refine j_aload_0 144 dX7_put_143 rfl ?_
      refine j_iload_1 145 dX7_put_144 rfl ?_
      refine j_aload_0 146 dX7_put_145 rfl ?_
      refine j_get 149 0 gf_X7_78 dX7_put_146 rfl rfl ?_
      refine j_idiv 150 dX7_put_149 (by omega) (by omega) (by first | with_reducible exact iI_rng _ | with_reducible exact bI_r _ | exact ⟨by omega, by omega⟩) (by first | with_reducible exact iI_rng _ | with_reducible exact bI_r _ | exact ⟨by omega, by omega⟩) ?_
      refine j_top ((i / wd : Nat) : Int) rfl ?_
      refine j_callV 153 Y_X7_shapeOfBlock [0, 1, 5] [_] (c_X7_shapeOfBlock E _ _ _ _ _ _ _ _ _ _ _ _ _ _ _ _ _ _ _ _ _ _ _ n wd (i / wd) hw hn.2 (by have := Nat.div_mul_le_self i wd; omega) (by have := Nat.div_le_self i wd; omega)) m_X7_shapeOfBlock wml_X7_103 dX7_put_150 0 rfl rfl rfl rfl rfl rfl rfl rfl rfl (fun r N h => by obtain ⟨_, _, rfl, rfl⟩ := h; rfl) (fun r N h => ?_)
      obtain ⟨pd3, pi3, rfl, rfl⟩ := h
      refine j_eqM (M' := [(m0, jO 7 [.int (iI 0), .int (iI ask), .int (iI fnd), .ref m1, .ref m2, .ref m3, .int (iI (n : Int)), .int (iI (wd : Int)), .ref m4, .ref m5, .int (iI mm), .ref m6, .ref m7, .int (iI ((um : Int) + 1)), .ref m8, .ref m9, .ref m10, .ref m11, .int (iI pd3), .int (iI nd), .ref m12, .int (iI pal)]), (m4, jA E 48 (upd it i v)), (m5, jA E 256 md0), (m6, jA E 10 (upd ua um (iI (i : Int)))), (m7, jA E 10 (upd uw um (iI (it i).toInt))), (m11, jA E 48 pi3)]) rfl ?_
      refine j_istore 155 (lv' := [(0, _), (1, _), (2, _), (3, _), (4, _), (5, _), (6, _)]) dX7_put_153 rfl ⟨rfl, rfl⟩ ?_
      refine j_aload_0 156 dX7_put_155 rfl ?_
      refine j_iload 158 dX7_put_156 rfl ?_
      refine j_callV 161 Y_X7_makes [0, 2] [_] (c_X7_makes E _ _ _ _ _ _ _ _ _ _ _ _ _ _ _ _ _ _ _ _ _ _ _ _ _ (shB_lt _ n _ hw.2)) m_X7_makes wml_X7_106 dX7_put_158 0 rfl rfl rfl rfl rfl rfl rfl rfl rfl (fun r N h => by obtain ⟨rfl, rfl⟩ := h; rfl) (fun r N h => ?_)
      obtain ⟨rfl, rfl⟩ := h
      refine j_eqM (M' := [(m0, jO 7 [.int (iI 0), .int (iI ask), .int (iI fnd), .ref m1, .ref m2, .ref m3, .int (iI (n : Int)), .int (iI (wd : Int)), .ref m4, .ref m5, .int (iI (imM md0 mm (shB (tI (upd it i v)) n wd (i / wd)))), .ref m6, .ref m7, .int (iI ((um : Int) + 1)), .ref m8, .ref m9, .ref m10, .ref m11, .int (iI pd3), .int (iI nd), .ref m12, .int (iI pal)]), (m4, jA E 48 (upd it i v)), (m5, jA E 256 (imW md0 (shB (tI (upd it i v)) n wd (i / wd)))), (m6, jA E 10 (upd ua um (iI (i : Int)))), (m7, jA E 10 (upd uw um (iI (it i).toInt))), (m11, jA E 48 pi3)]) rfl ?_
      refine j_aload_0 162 dX7_put_161 rfl ?_
      refine j_iload 164 dX7_put_162 rfl ?_
      refine j_iload 166 dX7_put_164 rfl ?_
      refine j_icmp_ne 173 169 dX7_put_166 (jr_nat (by have := shB_lt (tI it) n (i / wd) hw.2; omega)) (jr_nat (by have := shB_lt (tI (upd it i v)) n (i / wd) hw.2; omega)) (fun q166 => ?_) (fun q166 => ?_)
      · have e1 : (1 : Int) = bI (¬ ((shB (tI (upd it i v)) n wd (i / wd)) : Int) = ((shB (tI it) n wd (i / wd)) : Int)) := (bI_t (show ¬ _ from fun z => q166 z.symm)).symm
        refine j_iconst 174 dX7_put_173 ?_
        refine j_top _ (congrArg iI e1) ?_
        refine j_iload 176 dX7_put_174 rfl ?_
        refine j_callV 179 Y_X7_tells [0] [_, _] (c_X7_tells E _ _ _ _ _ _ _ _ _ _ _ _ _ _ _ _ _ _ _ _ _ _ _ _ _) m_X7_tells wml_X7_72 dX7_put_176 0 rfl rfl rfl rfl rfl rfl rfl rfl rfl (fun r N h => by obtain ⟨rfl, rfl⟩ := h; rfl) (fun r N h => ?_)
        obtain ⟨rfl, rfl⟩ := h
        exact j_iret dX7_put_179 rfl rfl ⟨pd3, pi3, rfl, rfl⟩
      · have e1 : (0 : Int) = bI (¬ ((shB (tI (upd it i v)) n wd (i / wd)) : Int) = ((shB (tI it) n wd (i / wd)) : Int)) := (bI_f (fun z => z q166.symm)).symm
        refine j_iconst 170 dX7_put_169 ?_
        refine j_goto 174 dX7_put_170 ?_
        refine j_top _ (congrArg iI e1) ?_
        refine j_iload 176 dX7_put_174 rfl ?_
        refine j_callV 179 Y_X7_tells [0] [_, _] (c_X7_tells E _ _ _ _ _ _ _ _ _ _ _ _ _ _ _ _ _ _ _ _ _ _ _ _ _) m_X7_tells wml_X7_72 dX7_put_176 0 rfl rfl rfl rfl rfl rfl rfl rfl rfl (fun r N h => by obtain ⟨rfl, rfl⟩ := h; rfl) (fun r N h => ?_)
        obtain ⟨rfl, rfl⟩ := h
        exact j_iret dX7_put_179 rfl rfl ⟨pd3, pi3, rfl, rfl⟩
    · omega
  · omega

set_option maxRecDepth 100000 in
set_option maxHeartbeats 4000000 in
theorem lp7_put (E : jD) (fnd : Int) (ask : Int) (mm : Int) (nd : Int) (m0 : Nat) (m1 : Nat) (m2 : Nat) (m3 : Nat) (m4 : Nat) (m5 : Nat) (m6 : Nat) (m7 : Nat) (m8 : Nat) (m9 : Nat) (m10 : Nat) (m11 : Nat) (m12 : Nat) (pd : Int) (pal : Int) (it : Nat → Int32) (md0 : Nat → Int32) (ua : Nat → Int32) (uw : Nat → Int32) (pi : Nat → Int32) (n wd i : Nat) (v : Int32) (Z : jZ) (kk : J E Y_X7_put Z 0 0 75 [(0, .ref m0), (1, .int (iI (i : Int))), (2, .int v), (3, .int (iI 0)), (4, .int (iI (9 : Int)))] [] [(m0, jO 7 [.int (iI 0), .int (iI ask), .int (iI fnd), .ref m1, .ref m2, .ref m3, .int (iI (n : Int)), .int (iI (wd : Int)), .ref m4, .ref m5, .int (iI mm), .ref m6, .ref m7, .int (iI 10), .ref m8, .ref m9, .ref m10, .ref m11, .int (iI pd), .int (iI nd), .ref m12, .int (iI pal)]), (m4, jA E 48 it), (m5, jA E 256 md0), (m6, jA E 10 (shF ua 9)), (m7, jA E 10 (shF uw 9)), (m11, jA E 48 pi)]) : ∀ (d : Nat) (k : Nat), 9 - k < d → (k ≤ 9) → J E Y_X7_put Z 0 0 30 [(0, .ref m0), (1, .int (iI (i : Int))), (2, .int v), (3, .int (iI 0)), (4, .int (iI (k : Int)))] [] [(m0, jO 7 [.int (iI 0), .int (iI ask), .int (iI fnd), .ref m1, .ref m2, .ref m3, .int (iI (n : Int)), .int (iI (wd : Int)), .ref m4, .ref m5, .int (iI mm), .ref m6, .ref m7, .int (iI 10), .ref m8, .ref m9, .ref m10, .ref m11, .int (iI pd), .int (iI nd), .ref m12, .int (iI pal)]), (m4, jA E 48 it), (m5, jA E 256 md0), (m6, jA E 10 (shF ua k)), (m7, jA E 10 (shF uw k)), (m11, jA E 48 pi)] := by
  intro d
  induction d with
  | zero => intros; omega
  | succ d ih =>
    intro k hd hk
    refine j_iload 32 dX7_put_30 rfl ?_
    refine j_bipush 34 dX7_put_32 (by decide +kernel) ?_
    refine j_icmp_ge 75 37 dX7_put_34 (by first | with_reducible exact iI_rng _ | with_reducible exact bI_r _ | exact ⟨by omega, by omega⟩) (by first | with_reducible exact iI_rng _ | with_reducible exact bI_r _ | exact ⟨by omega, by omega⟩) (fun q34 => ?_) (fun q34 => ?_)
    · obtain rfl : k = 9 := by omega
      exact kk
    · refine j_aload_0 38 dX7_put_37 rfl ?_
      refine j_get 41 0 gf_X7_25 dX7_put_38 rfl rfl ?_
      refine j_iload 43 dX7_put_41 rfl ?_
      refine j_aload_0 44 dX7_put_43 rfl ?_
      refine j_get 47 0 gf_X7_25 dX7_put_44 rfl rfl ?_
      refine j_iload 49 dX7_put_47 rfl ?_
      refine j_iconst 50 dX7_put_49 ?_
      refine j_iadd 51 dX7_put_50 ?_
      refine j_ialdx 52 3 (k + 1) dX7_put_51 rfl rfl (by omega) (by omega) ?_
      rw [show shF ua k (k + 1) = ua (k + 1) by unfold shF; rw [if_neg (by omega)]]
      refine j_iast 53 3 _ dX7_put_52 rfl rfl rfl (by omega) ?_
      rw [shF_s]
      refine j_aload_0 54 dX7_put_53 rfl ?_
      refine j_get 57 0 gf_X7_28 dX7_put_54 rfl rfl ?_
      refine j_iload 59 dX7_put_57 rfl ?_
      refine j_aload_0 60 dX7_put_59 rfl ?_
      refine j_get 63 0 gf_X7_28 dX7_put_60 rfl rfl ?_
      refine j_iload 65 dX7_put_63 rfl ?_
      refine j_iconst 66 dX7_put_65 ?_
      refine j_iadd 67 dX7_put_66 ?_
      refine j_ialdx 68 4 (k + 1) dX7_put_67 rfl rfl (by omega) (by omega) ?_
      rw [show shF uw k (k + 1) = uw (k + 1) by unfold shF; rw [if_neg (by omega)]]
      refine j_iast 69 4 _ dX7_put_68 rfl rfl rfl (by omega) ?_
      rw [shF_s]
      refine j_iinc 72 (lv' := [(0, _), (1, _), (2, _), (3, _), (4, _)]) dX7_put_69 rfl rfl ⟨rfl, rfl⟩ ?_
      refine j_goto 30 dX7_put_72 ?_
      exact ih (k + 1) (by omega) (by omega)

set_option maxRecDepth 100000 in
set_option maxHeartbeats 4000000 in
theorem c_X7_put_hi (E : jD) (fnd : Int) (ask : Int) (mm : Int) (nd : Int) (m0 : Nat) (m1 : Nat) (m2 : Nat) (m3 : Nat) (m4 : Nat) (m5 : Nat) (m6 : Nat) (m7 : Nat) (m8 : Nat) (m9 : Nat) (m10 : Nat) (m11 : Nat) (m12 : Nat) (thr : Int) (pd : Int) (pal : Int) (it : Nat → Int32) (md0 : Nat → Int32) (ua : Nat → Int32) (uw : Nat → Int32) (pi : Nat → Int32) (n wd i : Nat) (v : Int32) (hn : 0 ≤ (n : Int) ∧ n ≤ 48) (hw : 1 ≤ wd ∧ wd ≤ 6) (hi : i < n) : MC E Y_X7_put [.ref m0, .int (iI (i : Int)), .int v] [(m0, jO 7 [.int (iI thr), .int (iI ask), .int (iI fnd), .ref m1, .ref m2, .ref m3, .int (iI (n : Int)), .int (iI (wd : Int)), .ref m4, .ref m5, .int (iI mm), .ref m6, .ref m7, .int (iI 10), .ref m8, .ref m9, .ref m10, .ref m11, .int (iI pd), .int (iI nd), .ref m12, .int (iI pal)]), (m4, jA E 48 it), (m5, jA E 256 md0), (m6, jA E 10 ua), (m7, jA E 10 uw), (m11, jA E 48 pi)] (fun rr N0 => ∃ pd2 pi2, rr = some (.int (iI (bI (¬ ((shB (tI (upd it i v)) n wd (i / wd)) : Int) = ((shB (tI it) n wd (i / wd)) : Int))))) ∧ N0 = [(m0, jO 7 [.int (iI 0), .int (iI (it i).toInt), .int (iI fnd), .ref m1, .ref m2, .ref m3, .int (iI (n : Int)), .int (iI (wd : Int)), .ref m4, .ref m5, .int (iI (imM md0 mm (shB (tI (upd it i v)) n wd (i / wd)))), .ref m6, .ref m7, .int (iI 10), .ref m8, .ref m9, .ref m10, .ref m11, .int (iI pd2), .int (iI nd), .ref m12, .int (iI pal)]), (m4, jA E 48 (upd it i v)), (m5, jA E 256 (imW md0 (shB (tI (upd it i v)) n wd (i / wd)))), (m6, jA E 10 (upd (shF ua 9) 9 (iI (i : Int)))), (m7, jA E 10 (upd (shF uw 9) 9 (iI (it i).toInt))), (m11, jA E 48 pi2)]) := by
  refine MC.of (by decide) rfl rfl ?_
  refine j_aload_0 1 dX7_put_0 rfl ?_
  refine j_iconst 2 dX7_put_1 ?_
  refine j_put 5 0 pf_X7_46 dX7_put_2 rfl ⟨rfl, rfl, rfl⟩ ?_
  refine j_aload_0 6 dX7_put_5 rfl ?_
  refine j_iload_1 7 dX7_put_6 rfl ?_
  refine j_iload_1 8 dX7_put_7 rfl ?_
  refine j_callVi 11 Y_X7_againstRun [0] [_, _] (c_X7_againstRun_ok E _ _ _ _ _ _ _ _ _ _ _ _ _ _ _ _ _ _ _ _ _ _ _ _ _ (by omega) (by omega) (by omega)) m_X7_againstRun wml_X7_113 dX7_put_8 0 rfl rfl rfl rfl rfl rfl rfl rfl rfl rfl ?_
  refine j_istore_3 12 (lv' := [(0, _), (1, _), (2, _), (3, _)]) dX7_put_11 rfl ⟨rfl, rfl⟩ ?_
  refine j_iload_3 13 dX7_put_12 rfl ?_
  refine j_if_eq 18 16 dX7_put_13 (by first | with_reducible exact iI_rng _ | with_reducible exact bI_r _ | exact ⟨by omega, by omega⟩) (fun q13 => ?_) (fun q13 => ?_)
  · refine j_aload_0 19 dX7_put_18 rfl ?_
    refine j_get 22 0 gf_X7_96 dX7_put_19 rfl rfl ?_
    refine j_bipush 24 dX7_put_22 (by decide +kernel) ?_
    refine j_icmp_ne 81 27 dX7_put_24 (by first | with_reducible exact iI_rng _ | with_reducible exact bI_r _ | exact ⟨by omega, by omega⟩) (by first | with_reducible exact iI_rng _ | with_reducible exact bI_r _ | exact ⟨by omega, by omega⟩) (fun q24 => ?_) (fun q24 => ?_)
    · omega
    · refine j_iconst 28 dX7_put_27 ?_
      refine j_istore 30 (lv' := [(0, _), (1, _), (2, _), (3, _), (4, _)]) dX7_put_28 rfl ⟨rfl, rfl⟩ ?_
      refine j_eqM (M' := [(m0, jO 7 [.int (iI 0), .int (iI ask), .int (iI fnd), .ref m1, .ref m2, .ref m3, .int (iI (n : Int)), .int (iI (wd : Int)), .ref m4, .ref m5, .int (iI mm), .ref m6, .ref m7, .int (iI 10), .ref m8, .ref m9, .ref m10, .ref m11, .int (iI pd), .int (iI nd), .ref m12, .int (iI pal)]), (m4, jA E 48 it), (m5, jA E 256 md0), (m6, jA E 10 (shF ua 0)), (m7, jA E 10 (shF uw 0)), (m11, jA E 48 pi)]) (by rw [shF_0, shF_0]; rfl) ?_
      refine lp7_put E fnd ask mm nd m0 m1 m2 m3 m4 m5 m6 m7 m8 m9 m10 m11 m12 pd pal it md0 ua uw pi n wd i v _ ?_ 10 0 (by omega) (by omega)
      refine j_aload_0 76 dX7_put_75 rfl ?_
      refine j_bipush 78 dX7_put_76 (by decide +kernel) ?_
      refine j_put 81 0 pf_X7_96 dX7_put_78 rfl ⟨rfl, rfl, rfl⟩ ?_
      refine j_aload_0 82 dX7_put_81 rfl ?_
      refine j_get 85 0 gf_X7_25 dX7_put_82 rfl rfl ?_
      refine j_aload_0 86 dX7_put_85 rfl ?_
      refine j_get 89 0 gf_X7_96 dX7_put_86 rfl rfl ?_
      refine j_iload_1 90 dX7_put_89 rfl ?_
      refine j_iast 91 3 (9) dX7_put_90 rfl rfl (by omega) (by omega) ?_
      refine j_aload_0 92 dX7_put_91 rfl ?_
      refine j_get 95 0 gf_X7_28 dX7_put_92 rfl rfl ?_
      refine j_aload_0 96 dX7_put_95 rfl ?_
      refine j_get 99 0 gf_X7_96 dX7_put_96 rfl rfl ?_
      refine j_aload_0 100 dX7_put_99 rfl ?_
      refine j_get 103 0 gf_X7_19 dX7_put_100 rfl rfl ?_
      refine j_iload_1 104 dX7_put_103 rfl ?_
      refine j_iald 105 1 _ dX7_put_104 rfl rfl rfl (by omega) ?_
      refine j_iast 106 4 (9) dX7_put_105 rfl rfl (by omega) (by omega) ?_
      refine j_aload_0 107 dX7_put_106 rfl ?_
      refine j_dup 108 dX7_put_107 rfl ?_
      refine j_get 111 0 gf_X7_96 dX7_put_108 rfl rfl ?_
      refine j_iconst 112 dX7_put_111 ?_
      refine j_iadd 113 dX7_put_112 ?_
      refine j_put 116 0 pf_X7_96 dX7_put_113 rfl ⟨rfl, rfl, rfl⟩ ?_
      refine j_aload_0 117 dX7_put_116 rfl ?_
      refine j_get 120 0 gf_X7_19 dX7_put_117 rfl rfl ?_
      refine j_iload_1 121 dX7_put_120 rfl ?_
      refine j_iald 122 1 _ dX7_put_121 rfl rfl rfl (by omega) ?_
      refine j_istore 124 (lv' := [(0, _), (1, _), (2, _), (3, _), (4, _)]) dX7_put_122 rfl ⟨rfl, rfl⟩ ?_
      refine j_aload_0 125 dX7_put_124 rfl ?_
      refine j_iload_1 126 dX7_put_125 rfl ?_
      refine j_aload_0 127 dX7_put_126 rfl ?_
      refine j_get 130 0 gf_X7_78 dX7_put_127 rfl rfl ?_
      refine j_idiv 131 dX7_put_130 (by omega) (by omega) (by first | with_reducible exact iI_rng _ | with_reducible exact bI_r _ | exact ⟨by omega, by omega⟩) (by first | with_reducible exact iI_rng _ | with_reducible exact bI_r _ | exact ⟨by omega, by omega⟩) ?_
      refine j_top ((i / wd : Nat) : Int) rfl ?_
      refine j_callV 134 Y_X7_shapeOfBlock [0, 1, 5] [_] (c_X7_shapeOfBlock E _ _ _ _ _ _ _ _ _ _ _ _ _ _ _ _ _ _ _ _ _ _ _ n wd (i / wd) hw hn.2 (by have := Nat.div_mul_le_self i wd; omega) (by have := Nat.div_le_self i wd; omega)) m_X7_shapeOfBlock wml_X7_103 dX7_put_131 0 rfl rfl rfl rfl rfl rfl rfl rfl rfl (fun r N h => by obtain ⟨_, _, rfl, rfl⟩ := h; rfl) (fun r N h => ?_)
      obtain ⟨pd1, pi1, rfl, rfl⟩ := h
      refine j_eqM (M' := [(m0, jO 7 [.int (iI 0), .int (iI ask), .int (iI fnd), .ref m1, .ref m2, .ref m3, .int (iI (n : Int)), .int (iI (wd : Int)), .ref m4, .ref m5, .int (iI mm), .ref m6, .ref m7, .int (iI 10), .ref m8, .ref m9, .ref m10, .ref m11, .int (iI pd1), .int (iI nd), .ref m12, .int (iI pal)]), (m4, jA E 48 it), (m5, jA E 256 md0), (m6, jA E 10 (upd (shF ua 9) 9 (iI (i : Int)))), (m7, jA E 10 (upd (shF uw 9) 9 (iI (it i).toInt))), (m11, jA E 48 pi1)]) rfl ?_
      refine j_istore 136 (lv' := [(0, _), (1, _), (2, _), (3, _), (4, _), (5, _)]) dX7_put_134 rfl ⟨rfl, rfl⟩ ?_
      refine j_aload_0 137 dX7_put_136 rfl ?_
      refine j_get 140 0 gf_X7_19 dX7_put_137 rfl rfl ?_
      refine j_iload_1 141 dX7_put_140 rfl ?_
      refine j_iload_2 142 dX7_put_141 rfl ?_
      refine j_iast 143 1 _ dX7_put_142 rfl rfl rfl (by omega) ?_
      refine j_aload_0 144 dX7_put_143 rfl ?_
      refine j_iload_1 145 dX7_put_144 rfl ?_
      refine j_aload_0 146 dX7_put_145 rfl ?_
      refine j_get 149 0 gf_X7_78 dX7_put_146 rfl rfl ?_
      refine j_idiv 150 dX7_put_149 (by omega) (by omega) (by first | with_reducible exact iI_rng _ | with_reducible exact bI_r _ | exact ⟨by omega, by omega⟩) (by first | with_reducible exact iI_rng _ | with_reducible exact bI_r _ | exact ⟨by omega, by omega⟩) ?_
      refine j_top ((i / wd : Nat) : Int) rfl ?_
      refine j_callV 153 Y_X7_shapeOfBlock [0, 1, 5] [_] (c_X7_shapeOfBlock E _ _ _ _ _ _ _ _ _ _ _ _ _ _ _ _ _ _ _ _ _ _ _ n wd (i / wd) hw hn.2 (by have := Nat.div_mul_le_self i wd; omega) (by have := Nat.div_le_self i wd; omega)) m_X7_shapeOfBlock wml_X7_103 dX7_put_150 0 rfl rfl rfl rfl rfl rfl rfl rfl rfl (fun r N h => by obtain ⟨_, _, rfl, rfl⟩ := h; rfl) (fun r N h => ?_)
      obtain ⟨pd3, pi3, rfl, rfl⟩ := h
      refine j_eqM (M' := [(m0, jO 7 [.int (iI 0), .int (iI ask), .int (iI fnd), .ref m1, .ref m2, .ref m3, .int (iI (n : Int)), .int (iI (wd : Int)), .ref m4, .ref m5, .int (iI mm), .ref m6, .ref m7, .int (iI 10), .ref m8, .ref m9, .ref m10, .ref m11, .int (iI pd3), .int (iI nd), .ref m12, .int (iI pal)]), (m4, jA E 48 (upd it i v)), (m5, jA E 256 md0), (m6, jA E 10 (upd (shF ua 9) 9 (iI (i : Int)))), (m7, jA E 10 (upd (shF uw 9) 9 (iI (it i).toInt))), (m11, jA E 48 pi3)]) rfl ?_
      refine j_istore 155 (lv' := [(0, _), (1, _), (2, _), (3, _), (4, _), (5, _), (6, _)]) dX7_put_153 rfl ⟨rfl, rfl⟩ ?_
      refine j_aload_0 156 dX7_put_155 rfl ?_
      refine j_iload 158 dX7_put_156 rfl ?_
      refine j_callV 161 Y_X7_makes [0, 2] [_] (c_X7_makes E _ _ _ _ _ _ _ _ _ _ _ _ _ _ _ _ _ _ _ _ _ _ _ _ _ (shB_lt _ n _ hw.2)) m_X7_makes wml_X7_106 dX7_put_158 0 rfl rfl rfl rfl rfl rfl rfl rfl rfl (fun r N h => by obtain ⟨rfl, rfl⟩ := h; rfl) (fun r N h => ?_)
      obtain ⟨rfl, rfl⟩ := h
      refine j_eqM (M' := [(m0, jO 7 [.int (iI 0), .int (iI ask), .int (iI fnd), .ref m1, .ref m2, .ref m3, .int (iI (n : Int)), .int (iI (wd : Int)), .ref m4, .ref m5, .int (iI (imM md0 mm (shB (tI (upd it i v)) n wd (i / wd)))), .ref m6, .ref m7, .int (iI 10), .ref m8, .ref m9, .ref m10, .ref m11, .int (iI pd3), .int (iI nd), .ref m12, .int (iI pal)]), (m4, jA E 48 (upd it i v)), (m5, jA E 256 (imW md0 (shB (tI (upd it i v)) n wd (i / wd)))), (m6, jA E 10 (upd (shF ua 9) 9 (iI (i : Int)))), (m7, jA E 10 (upd (shF uw 9) 9 (iI (it i).toInt))), (m11, jA E 48 pi3)]) rfl ?_
      refine j_aload_0 162 dX7_put_161 rfl ?_
      refine j_iload 164 dX7_put_162 rfl ?_
      refine j_iload 166 dX7_put_164 rfl ?_
      refine j_icmp_ne 173 169 dX7_put_166 (jr_nat (by have := shB_lt (tI it) n (i / wd) hw.2; omega)) (jr_nat (by have := shB_lt (tI (upd it i v)) n (i / wd) hw.2; omega)) (fun q166 => ?_) (fun q166 => ?_)
      · have e1 : (1 : Int) = bI (¬ ((shB (tI (upd it i v)) n wd (i / wd)) : Int) = ((shB (tI it) n wd (i / wd)) : Int)) := (bI_t (show ¬ _ from fun z => q166 z.symm)).symm
        refine j_iconst 174 dX7_put_173 ?_
        refine j_top _ (congrArg iI e1) ?_
        refine j_iload 176 dX7_put_174 rfl ?_
        refine j_callV 179 Y_X7_tells [0] [_, _] (c_X7_tells E _ _ _ _ _ _ _ _ _ _ _ _ _ _ _ _ _ _ _ _ _ _ _ _ _) m_X7_tells wml_X7_72 dX7_put_176 0 rfl rfl rfl rfl rfl rfl rfl rfl rfl (fun r N h => by obtain ⟨rfl, rfl⟩ := h; rfl) (fun r N h => ?_)
        obtain ⟨rfl, rfl⟩ := h
        exact j_iret dX7_put_179 rfl rfl ⟨pd3, pi3, rfl, rfl⟩
      · have e1 : (0 : Int) = bI (¬ ((shB (tI (upd it i v)) n wd (i / wd)) : Int) = ((shB (tI it) n wd (i / wd)) : Int)) := (bI_f (fun z => z q166.symm)).symm
        refine j_iconst 170 dX7_put_169 ?_
        refine j_goto 174 dX7_put_170 ?_
        refine j_top _ (congrArg iI e1) ?_
        refine j_iload 176 dX7_put_174 rfl ?_
        refine j_callV 179 Y_X7_tells [0] [_, _] (c_X7_tells E _ _ _ _ _ _ _ _ _ _ _ _ _ _ _ _ _ _ _ _ _ _ _ _ _) m_X7_tells wml_X7_72 dX7_put_176 0 rfl rfl rfl rfl rfl rfl rfl rfl rfl (fun r N h => by obtain ⟨rfl, rfl⟩ := h; rfl) (fun r N h => ?_)
        obtain ⟨rfl, rfl⟩ := h
        exact j_iret dX7_put_179 rfl rfl ⟨pd3, pi3, rfl, rfl⟩
  · omega

set_option maxRecDepth 100000 in
set_option maxHeartbeats 4000000 in
theorem c_X7_undo_no (E : jD) (fnd : Int) (ask : Int) (wd : Int) (n : Int) (mm : Int) (um : Int) (nd : Int) (m0 : Nat) (m1 : Nat) (m2 : Nat) (m3 : Nat) (m4 : Nat) (m5 : Nat) (m6 : Nat) (m7 : Nat) (m8 : Nat) (m9 : Nat) (m10 : Nat) (m11 : Nat) (m12 : Nat) (thr : Int) (pd : Int) (pal : Int) (c : Int) (hu : um = 0) (hc : c = -2) : MC E Y_X7_undo [.ref m0] [(m0, jO 7 [.int (iI thr), .int (iI ask), .int (iI fnd), .ref m1, .ref m2, .ref m3, .int (iI n), .int (iI wd), .ref m4, .ref m5, .int (iI mm), .ref m6, .ref m7, .int (iI um), .ref m8, .ref m9, .ref m10, .ref m11, .int (iI pd), .int (iI nd), .ref m12, .int (iI pal)])] (fun rr N0 => rr = some (.int (iI (rz c))) ∧ N0 = [(m0, jO 7 [.int (iI 0), .int (iI ask), .int (iI fnd), .ref m1, .ref m2, .ref m3, .int (iI n), .int (iI wd), .ref m4, .ref m5, .int (iI mm), .ref m6, .ref m7, .int (iI um), .ref m8, .ref m9, .ref m10, .ref m11, .int (iI pd), .int (iI nd), .ref m12, .int (iI pal)])]) := by
  refine MC.of (by decide) rfl rfl ?_
  refine j_aload_0 1 dX7_undo_0 rfl ?_
  refine j_iconst 2 dX7_undo_1 ?_
  refine j_put 5 0 pf_X7_46 dX7_undo_2 rfl ⟨rfl, rfl, rfl⟩ ?_
  refine j_aload_0 6 dX7_undo_5 rfl ?_
  refine j_get 9 0 gf_X7_96 dX7_undo_6 rfl rfl ?_
  refine j_if_ne 15 12 dX7_undo_9 (by first | with_reducible exact iI_rng _ | with_reducible exact bI_r _ | exact ⟨by omega, by omega⟩) (fun q9 => ?_) (fun q9 => ?_)
  · omega
  · refine j_bipush 14 dX7_undo_12 (by decide +kernel) ?_
    obtain rfl : c = -2 := by omega
    exact j_iret dX7_undo_14 rfl rfl ⟨rfl, rfl⟩

set_option maxRecDepth 100000 in
set_option maxHeartbeats 4000000 in
theorem c_X7_undo_ok (E : jD) (fnd : Int) (ask : Int) (wd : Int) (n : Int) (mm : Int) (nd : Int) (m0 : Nat) (m1 : Nat) (m2 : Nat) (m3 : Nat) (m4 : Nat) (m5 : Nat) (m6 : Nat) (m7 : Nat) (m8 : Nat) (m9 : Nat) (m10 : Nat) (m11 : Nat) (m12 : Nat) (thr : Int) (pd : Int) (pal : Int) (it : Nat → Int32) (ua : Nat → Int32) (uw : Nat → Int32) (i m : Nat) (hi : i < 48) (hm : m < 10) (hpi : ua m = iI (i : Int)) : MC E Y_X7_undo [.ref m0] [(m0, jO 7 [.int (iI thr), .int (iI ask), .int (iI fnd), .ref m1, .ref m2, .ref m3, .int (iI n), .int (iI wd), .ref m4, .ref m5, .int (iI mm), .ref m6, .ref m7, .int (iI ((m : Int) + 1)), .ref m8, .ref m9, .ref m10, .ref m11, .int (iI pd), .int (iI nd), .ref m12, .int (iI pal)]), (m4, jA E 48 it), (m6, jA E 10 ua), (m7, jA E 10 uw)] (fun rr N0 => rr = some (.int (iI ((m : Int)))) ∧ N0 = [(m0, jO 7 [.int (iI 0), .int (iI ask), .int (iI fnd), .ref m1, .ref m2, .ref m3, .int (iI n), .int (iI wd), .ref m4, .ref m5, .int (iI mm), .ref m6, .ref m7, .int (iI (m : Int)), .ref m8, .ref m9, .ref m10, .ref m11, .int (iI pd), .int (iI nd), .ref m12, .int (iI pal)]), (m4, jA E 48 (upd it i (uw m))), (m6, jA E 10 ua), (m7, jA E 10 uw)]) := by
  refine MC.of (by decide) rfl rfl ?_
  refine j_aload_0 1 dX7_undo_0 rfl ?_
  refine j_iconst 2 dX7_undo_1 ?_
  refine j_put 5 0 pf_X7_46 dX7_undo_2 rfl ⟨rfl, rfl, rfl⟩ ?_
  refine j_aload_0 6 dX7_undo_5 rfl ?_
  refine j_get 9 0 gf_X7_96 dX7_undo_6 rfl rfl ?_
  refine j_if_ne 15 12 dX7_undo_9 (by first | with_reducible exact iI_rng _ | with_reducible exact bI_r _ | exact ⟨by omega, by omega⟩) (fun q9 => ?_) (fun q9 => ?_)
  · refine j_aload_0 16 dX7_undo_15 rfl ?_
    refine j_dup 17 dX7_undo_16 rfl ?_
    refine j_get 20 0 gf_X7_96 dX7_undo_17 rfl rfl ?_
    refine j_iconst 21 dX7_undo_20 ?_
    refine j_isub 22 dX7_undo_21 ?_
    refine j_top (m : Int) (congrArg iI (by omega)) ?_
    refine j_put 25 0 pf_X7_96 dX7_undo_22 rfl ⟨rfl, rfl, rfl⟩ ?_
    refine j_aload_0 26 dX7_undo_25 rfl ?_
    refine j_get 29 0 gf_X7_19 dX7_undo_26 rfl rfl ?_
    refine j_aload_0 30 dX7_undo_29 rfl ?_
    refine j_get 33 0 gf_X7_25 dX7_undo_30 rfl rfl ?_
    refine j_aload_0 34 dX7_undo_33 rfl ?_
    refine j_get 37 0 gf_X7_96 dX7_undo_34 rfl rfl ?_
    refine j_ialdw 38 2 _ ((i : Int)) dX7_undo_37 rfl rfl rfl (by omega) hpi ?_
    refine j_aload_0 39 dX7_undo_38 rfl ?_
    refine j_get 42 0 gf_X7_28 dX7_undo_39 rfl rfl ?_
    refine j_aload_0 43 dX7_undo_42 rfl ?_
    refine j_get 46 0 gf_X7_96 dX7_undo_43 rfl rfl ?_
    refine j_ialdx 47 3 _ dX7_undo_46 rfl rfl rfl (by omega) ?_
    refine j_iast 48 1 _ dX7_undo_47 rfl rfl rfl (by omega) ?_
    refine j_aload_0 49 dX7_undo_48 rfl ?_
    refine j_get 52 0 gf_X7_96 dX7_undo_49 rfl rfl ?_
    exact j_iret dX7_undo_52 rfl rfl ⟨rfl, rfl⟩
  · omega

set_option maxRecDepth 100000 in
set_option maxHeartbeats 4000000 in
theorem c_X7_shape_no (E : jD) (fnd : Int) (ask : Int) (mm : Int) (um : Int) (nd : Int) (fm : Nat → Int) (m0 : Nat) (m1 : Nat) (m2 : Nat) (m3 : Nat) (m4 : Nat) (m5 : Nat) (m6 : Nat) (m7 : Nat) (m8 : Nat) (m9 : Nat) (m10 : Nat) (m11 : Nat) (m12 : Nat) (thr : Int) (pd : Int) (pal : Int) (n wd : Nat) (q c : Int) (hnw : (n = 0 ∧ wd = 0) ∨ (1 ≤ wd ∧ wd ≤ 6 ∧ 1 ≤ n ∧ n ≤ 48)) (hq0 : jr q) (hc : (n = 0 ∧ c = -2) ∨ (1 ≤ n ∧ (q < 0 ∨ (nB n wd : Int) ≤ q) ∧ c = 2)) : MC E Y_X7_shape [.ref m0, .int (iI q)] [(m0, jO 7 [.int (iI thr), .int (iI ask), .int (iI fnd), .ref m1, .ref m2, .ref m3, .int (iI (n : Int)), .int (iI (wd : Int)), .ref m4, .ref m5, .int (iI mm), .ref m6, .ref m7, .int (iI um), .ref m8, .ref m9, .ref m10, .ref m11, .int (iI pd), .int (iI nd), .ref m12, .int (iI pal)]), (m1, jA E 5 (aI fm))] (fun rr N0 => rr = some (.int (iI (rz c))) ∧ N0 = [(m0, jO 7 [.int (iI 0), .int (iI ask), .int (iI (rf c fnd)), .ref m1, .ref m2, .ref m3, .int (iI (n : Int)), .int (iI (wd : Int)), .ref m4, .ref m5, .int (iI mm), .ref m6, .ref m7, .int (iI um), .ref m8, .ref m9, .ref m10, .ref m11, .int (iI pd), .int (iI nd), .ref m12, .int (iI pal)]), (m1, jA E 5 (aI (rm c fm)))]) := by
  refine MC.of (by decide) rfl rfl ?_
  have h48 := nB_48 (n := n) (wd := wd) (by omega)
  refine j_aload_0 1 dX7_shape_0 rfl ?_
  refine j_iconst 2 dX7_shape_1 ?_
  refine j_put 5 0 pf_X7_46 dX7_shape_2 rfl ⟨rfl, rfl, rfl⟩ ?_
  refine j_aload_0 6 dX7_shape_5 rfl ?_
  refine j_get 9 0 gf_X7_81 dX7_shape_6 rfl rfl ?_
  refine j_if_ne 15 12 dX7_shape_9 (by first | with_reducible exact iI_rng _ | with_reducible exact bI_r _ | exact ⟨by omega, by omega⟩) (fun q9 => ?_) (fun q9 => ?_)
  · refine j_iload_1 16 dX7_shape_15 rfl ?_
    refine j_iconst 17 dX7_shape_16 ?_
    refine j_aload_0 18 dX7_shape_17 rfl ?_
    refine j_callVi 21 Y_X7_blocks [0] [] (c_X7_blocks E _ _ _ _ _ _ _ _ _ _ _ _ _ _ _ _ _ _ _ _ _ n wd (by omega)) m_X7_blocks wml_X7_99 dX7_shape_18 0 rfl rfl rfl rfl rfl rfl rfl rfl rfl rfl ?_
    refine j_iconst 22 dX7_shape_21 ?_
    refine j_isub 23 dX7_shape_22 ?_
    refine j_callSi 26 Y_X7_in [] [_, _, _] (c_X7_in E _ _ _ (by first | with_reducible assumption | with_reducible exact iI_rng _ | exact ⟨by omega, by omega⟩) (by first | with_reducible assumption | with_reducible exact iI_rng _ | exact ⟨by omega, by omega⟩) (by first | with_reducible assumption | with_reducible exact iI_rng _ | exact ⟨by omega, by omega⟩)) m_X7_in wml_X7_56 dX7_shape_23 rfl rfl rfl rfl rfl rfl rfl ?_
    refine j_bif_eq 37 29 dX7_shape_26 (fun q26 => ?_) (fun q26 => ?_)
    · refine j_aload_0 38 dX7_shape_37 rfl ?_
      refine j_iconst 39 dX7_shape_38 ?_
      obtain rfl : c = 2 := by omega
      refine j_callV 42 Y_X7_found [0, 1] [_] (c_X7_found E _ _ _ _ _ _ _ _ _ _ _ _ _ _ _ _ _ _ _ _ _ _ _ _ 2 (by decide)) m_X7_found wml_X7_64 dX7_shape_39 0 rfl rfl rfl rfl rfl rfl rfl rfl rfl (fun r N h => by obtain ⟨rfl, rfl⟩ := h; rfl) (fun r N h => ?_)
      obtain ⟨rfl, rfl⟩ := h
      exact j_iret dX7_shape_42 rfl rfl ⟨rfl, rfl⟩
    · omega
  · obtain rfl : c = -2 := by omega
    refine j_bipush 14 dX7_shape_12 (by decide +kernel) ?_
    exact j_iret dX7_shape_14 rfl rfl ⟨rfl, rfl⟩

set_option maxRecDepth 100000 in
set_option maxHeartbeats 4000000 in
theorem c_X7_shape_ok (E : jD) (fnd : Int) (ask : Int) (mm : Int) (um : Int) (nd : Int) (m0 : Nat) (m1 : Nat) (m2 : Nat) (m3 : Nat) (m4 : Nat) (m5 : Nat) (m6 : Nat) (m7 : Nat) (m8 : Nat) (m9 : Nat) (m10 : Nat) (m11 : Nat) (m12 : Nat) (thr : Int) (pd : Int) (pal : Int) (it : Nat → Int32) (pi : Nat → Int32) (n wd q : Nat) (hw : 1 ≤ wd ∧ wd ≤ 6) (hn : 1 ≤ n ∧ n ≤ 48) (hq0 : q < nB n wd) : MC E Y_X7_shape [.ref m0, .int (iI (q : Int))] [(m0, jO 7 [.int (iI thr), .int (iI ask), .int (iI fnd), .ref m1, .ref m2, .ref m3, .int (iI (n : Int)), .int (iI (wd : Int)), .ref m4, .ref m5, .int (iI mm), .ref m6, .ref m7, .int (iI um), .ref m8, .ref m9, .ref m10, .ref m11, .int (iI pd), .int (iI nd), .ref m12, .int (iI pal)]), (m4, jA E 48 it), (m11, jA E 48 pi)] (fun rr N0 => ∃ pd2 pi2, rr = some (.int (iI ((shB (tI it) n wd q : Nat) : Int))) ∧ N0 = [(m0, jO 7 [.int (iI 0), .int (iI ask), .int (iI fnd), .ref m1, .ref m2, .ref m3, .int (iI (n : Int)), .int (iI (wd : Int)), .ref m4, .ref m5, .int (iI mm), .ref m6, .ref m7, .int (iI um), .ref m8, .ref m9, .ref m10, .ref m11, .int (iI pd2), .int (iI nd), .ref m12, .int (iI pal)]), (m4, jA E 48 it), (m11, jA E 48 pi2)]) := by
  refine MC.of (by decide) rfl rfl ?_
  have h48 := nB_48 (n := n) (wd := wd) (by omega)
  have hbi := nB_in hw.1 hq0
  refine j_aload_0 1 dX7_shape_0 rfl ?_
  refine j_iconst 2 dX7_shape_1 ?_
  refine j_put 5 0 pf_X7_46 dX7_shape_2 rfl ⟨rfl, rfl, rfl⟩ ?_
  refine j_aload_0 6 dX7_shape_5 rfl ?_
  refine j_get 9 0 gf_X7_81 dX7_shape_6 rfl rfl ?_
  refine j_if_ne 15 12 dX7_shape_9 (by first | with_reducible exact iI_rng _ | with_reducible exact bI_r _ | exact ⟨by omega, by omega⟩) (fun q9 => ?_) (fun q9 => ?_)
  · refine j_iload_1 16 dX7_shape_15 rfl ?_
    refine j_iconst 17 dX7_shape_16 ?_
    refine j_aload_0 18 dX7_shape_17 rfl ?_
    refine j_callVi 21 Y_X7_blocks [0] [] (c_X7_blocks E _ _ _ _ _ _ _ _ _ _ _ _ _ _ _ _ _ _ _ _ _ n wd (by omega)) m_X7_blocks wml_X7_99 dX7_shape_18 0 rfl rfl rfl rfl rfl rfl rfl rfl rfl rfl ?_
    refine j_iconst 22 dX7_shape_21 ?_
    refine j_isub 23 dX7_shape_22 ?_
    refine j_callSi 26 Y_X7_in [] [_, _, _] (c_X7_in E _ _ _ (by first | with_reducible assumption | with_reducible exact iI_rng _ | exact ⟨by omega, by omega⟩) (by first | with_reducible assumption | with_reducible exact iI_rng _ | exact ⟨by omega, by omega⟩) (by first | with_reducible assumption | with_reducible exact iI_rng _ | exact ⟨by omega, by omega⟩)) m_X7_in wml_X7_56 dX7_shape_23 rfl rfl rfl rfl rfl rfl rfl ?_
    refine j_bif_eq 37 29 dX7_shape_26 (fun q26 => ?_) (fun q26 => ?_)
    · omega
    · refine j_aload_0 30 dX7_shape_29 rfl ?_
      refine j_iload_1 31 dX7_shape_30 rfl ?_
      refine j_callV 34 Y_X7_shapeOfBlock [0, 1, 2] [_] (c_X7_shapeOfBlock E _ _ _ _ _ _ _ _ _ _ _ _ _ _ _ _ _ _ _ _ _ _ _ n wd q hw hn.2 (by omega) (by omega)) m_X7_shapeOfBlock wml_X7_103 dX7_shape_31 0 rfl rfl rfl rfl rfl rfl rfl rfl rfl (fun r N h => by obtain ⟨_, _, rfl, rfl⟩ := h; rfl) (fun r N h => ?_)
      obtain ⟨pd2, pi2, rfl, rfl⟩ := h
      refine j_goto 42 dX7_shape_34 ?_
      exact j_iret dX7_shape_42 rfl rfl ⟨pd2, pi2, rfl, rfl⟩
  · omega
