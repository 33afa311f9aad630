set_option maxRecDepth 100000 in
set_option maxHeartbeats 4000000 in
theorem c_X7_tree_bad (E : jD) (fnd : Int) (ask : Int) (wd : Int) (n : Int) (mm : Int) (um : Int) (nd : Int) (m0 : Nat) (m1 : Nat) (m2 : Nat) (m3 : Nat) (m4 : Nat) (m5 : Nat) (m6 : Nat) (m7 : Nat) (m8 : Nat) (m9 : Nat) (m10 : Nat) (m11 : Nat) (m12 : Nat) (thr : Int) (pd : Int) (pal : Int) (r : Int) (hr : jr r) (hb : r < 0 ∨ 4 ≤ r) : MC E Y_X7_tree [.ref m0, .int (iI r)] [(m0, jO 7 [.int (iI thr), .int (iI ask), .int (iI fnd), .ref m1, .ref m2, .ref m3, .int (iI n), .int (iI wd), .ref m4, .ref m5, .int (iI mm), .ref m6, .ref m7, .int (iI um), .ref m8, .ref m9, .ref m10, .ref m11, .int (iI pd), .int (iI nd), .ref m12, .int (iI pal)])] (fun rr N0 => rr = some (.int (iI (-1))) ∧ N0 = [(m0, jO 7 [.int (iI 0), .int (iI ask), .int (iI fnd), .ref m1, .ref m2, .ref m3, .int (iI n), .int (iI wd), .ref m4, .ref m5, .int (iI mm), .ref m6, .ref m7, .int (iI um), .ref m8, .ref m9, .ref m10, .ref m11, .int (iI pd), .int (iI nd), .ref m12, .int (iI pal)])]) := by
  refine MC.of (by decide) rfl rfl ?_
  refine j_aload_0 1 dX7_tree_0 rfl ?_
  refine j_iconst 2 dX7_tree_1 ?_
  refine j_put 5 0 pf_X7_46 dX7_tree_2 rfl ⟨rfl, rfl, rfl⟩ ?_
  refine j_iload_1 6 dX7_tree_5 rfl ?_
  refine j_callSi 9 Y_X7_isRow [] [_] (c_X7_isRow E _ (by first | with_reducible assumption | with_reducible exact iI_rng _ | exact ⟨by omega, by omega⟩)) m_X7_isRow wml_X7_60 dX7_tree_6 rfl rfl rfl rfl rfl rfl rfl ?_
  refine j_bif_ne 14 12 dX7_tree_9 (fun q9 => ?_) (fun q9 => ?_)
  · omega
  · refine j_iconst 13 dX7_tree_12 ?_
    exact j_iret dX7_tree_13 rfl rfl ⟨rfl, rfl⟩

set_option maxRecDepth 100000 in
set_option maxHeartbeats 4000000 in
theorem c_X7_tree_no (E : jD) (fnd : Int) (ask : Int) (wd : Int) (n : Int) (mm : Int) (um : Int) (nd : Int) (fm : Nat → Int) (m0 : Nat) (m1 : Nat) (m2 : Nat) (m3 : Nat) (m4 : Nat) (m5 : Nat) (m6 : Nat) (m7 : Nat) (m8 : Nat) (m9 : Nat) (m10 : Nat) (m11 : Nat) (m12 : Nat) (thr : Int) (pd : Int) (pal : Int) (rn : Nat → Int) (r : Nat) (c : Int) (hr4 : r < 4) (hN : -1 ≤ rn r ∧ rn r ≤ 48) (hc : (rn r < 0 ∧ c = 1) ∨ (0 ≤ rn r ∧ (rn r < 1 ∨ 24 < rn r) ∧ c = 3)) : MC E Y_X7_tree [.ref m0, .int (iI (r : Int))] [(m0, jO 7 [.int (iI thr), .int (iI ask), .int (iI fnd), .ref m1, .ref m2, .ref m3, .int (iI n), .int (iI wd), .ref m4, .ref m5, .int (iI mm), .ref m6, .ref m7, .int (iI um), .ref m8, .ref m9, .ref m10, .ref m11, .int (iI pd), .int (iI nd), .ref m12, .int (iI pal)]), (m1, jA E 5 (aI fm)), (m3, jA E 4 (aI rn))] (fun rr N0 => rr = some (.int (iI (rz c))) ∧ N0 = [(m0, jO 7 [.int (iI 0), .int (iI ask), .int (iI (rf c fnd)), .ref m1, .ref m2, .ref m3, .int (iI n), .int (iI wd), .ref m4, .ref m5, .int (iI mm), .ref m6, .ref m7, .int (iI um), .ref m8, .ref m9, .ref m10, .ref m11, .int (iI pd), .int (iI nd), .ref m12, .int (iI pal)]), (m1, jA E 5 (aI (rm c fm))), (m3, jA E 4 (aI rn))]) := by
  refine MC.of (by decide) rfl rfl ?_
  refine j_aload_0 1 dX7_tree_0 rfl ?_
  refine j_iconst 2 dX7_tree_1 ?_
  refine j_put 5 0 pf_X7_46 dX7_tree_2 rfl ⟨rfl, rfl, rfl⟩ ?_
  refine j_iload_1 6 dX7_tree_5 rfl ?_
  refine j_callSi 9 Y_X7_isRow [] [_] (c_X7_isRow E _ (by first | with_reducible assumption | with_reducible exact iI_rng _ | exact ⟨by omega, by omega⟩)) m_X7_isRow wml_X7_60 dX7_tree_6 rfl rfl rfl rfl rfl rfl rfl ?_
  refine j_bif_ne 14 12 dX7_tree_9 (fun q9 => ?_) (fun q9 => ?_)
  · refine j_aload_0 15 dX7_tree_14 rfl ?_
    refine j_get 18 0 gf_X7_16 dX7_tree_15 rfl rfl ?_
    refine j_iload_1 19 dX7_tree_18 rfl ?_
    refine j_ialdw 20 2 _ (rn r) dX7_tree_19 rfl rfl rfl (by omega) rfl ?_
    refine j_if_ge 29 23 dX7_tree_20 (by first | with_reducible exact iI_rng _ | with_reducible exact bI_r _ | exact ⟨by omega, by omega⟩) (fun q20 => ?_) (fun q20 => ?_)
    · refine j_aload_0 30 dX7_tree_29 rfl ?_
      refine j_get 33 0 gf_X7_16 dX7_tree_30 rfl rfl ?_
      refine j_iload_1 34 dX7_tree_33 rfl ?_
      refine j_ialdw 35 2 _ (rn r) dX7_tree_34 rfl rfl rfl (by omega) rfl ?_
      refine j_iconst 36 dX7_tree_35 ?_
      refine j_bipush 38 dX7_tree_36 (by decide +kernel) ?_
      refine j_callSi 41 Y_X7_in [] [_, _, _] (c_X7_in E _ _ _ (by first | with_reducible assumption | with_reducible exact iI_rng _ | exact ⟨by omega, by omega⟩) (by first | with_reducible assumption | with_reducible exact iI_rng _ | exact ⟨by omega, by omega⟩) (by first | with_reducible assumption | with_reducible exact iI_rng _ | exact ⟨by omega, by omega⟩)) m_X7_in wml_X7_56 dX7_tree_38 rfl rfl rfl rfl rfl rfl rfl ?_
      refine j_bif_ne 50 44 dX7_tree_41 (fun q41 => ?_) (fun q41 => ?_)
      · omega
      · refine j_aload_0 45 dX7_tree_44 rfl ?_
        refine j_iconst 46 dX7_tree_45 ?_
        refine j_callV 49 Y_X7_found [0, 1] [_] (c_X7_found E _ _ _ _ _ _ _ _ _ _ _ _ _ _ _ _ _ _ _ _ _ _ _ _ 3 (by decide)) m_X7_found wml_X7_64 dX7_tree_46 0 rfl rfl rfl rfl rfl rfl rfl rfl rfl (fun r N h => by obtain ⟨rfl, rfl⟩ := h; rfl) (fun r N h => ?_)
        obtain ⟨rfl, rfl⟩ := h
        obtain rfl : c = 3 := by omega
        exact j_iret dX7_tree_49 rfl rfl ⟨rfl, rfl⟩
    · refine j_aload_0 24 dX7_tree_23 rfl ?_
      refine j_iconst 25 dX7_tree_24 ?_
      refine j_callV 28 Y_X7_found [0, 1] [_] (c_X7_found E _ _ _ _ _ _ _ _ _ _ _ _ _ _ _ _ _ _ _ _ _ _ _ _ 1 (by decide)) m_X7_found wml_X7_64 dX7_tree_25 0 rfl rfl rfl rfl rfl rfl rfl rfl rfl (fun r N h => by obtain ⟨rfl, rfl⟩ := h; rfl) (fun r N h => ?_)
      obtain ⟨rfl, rfl⟩ := h
      obtain rfl : c = 1 := by omega
      exact j_iret dX7_tree_28 rfl rfl ⟨rfl, rfl⟩
  · omega

set_option maxRecDepth 100000 in
set_option maxHeartbeats 4000000 in
theorem c_X7_tree_un (E : jD) (fnd : Int) (ask : Int) (wd : Int) (n : Int) (mm : Int) (um : Int) (nd : Int) (fm : Nat → Int) (m0 : Nat) (m1 : Nat) (m2 : Nat) (m3 : Nat) (m4 : Nat) (m5 : Nat) (m6 : Nat) (m7 : Nat) (m8 : Nat) (m9 : Nat) (m10 : Nat) (m11 : Nat) (m12 : Nat) (thr : Int) (pd : Int) (pal : Int) (rn : Nat → Int) (rw0 : Nat → Int32) (r n2 : Nat) (c : Int) (hr4 : r < 4) (hn2 : rn r = (n2 : Int)) (hN : 1 ≤ n2 ∧ n2 ≤ 24) (hT : ¬ toldP (fun k => (rw0 (48 * r + k)).toInt) n2) (hc : c = 4) : MC E Y_X7_tree [.ref m0, .int (iI (r : Int))] [(m0, jO 7 [.int (iI thr), .int (iI ask), .int (iI fnd), .ref m1, .ref m2, .ref m3, .int (iI n), .int (iI wd), .ref m4, .ref m5, .int (iI mm), .ref m6, .ref m7, .int (iI um), .ref m8, .ref m9, .ref m10, .ref m11, .int (iI pd), .int (iI nd), .ref m12, .int (iI pal)]), (m1, jA E 5 (aI fm)), (m2, jA E 192 rw0), (m3, jA E 4 (aI rn))] (fun rr N0 => rr = some (.int (iI (rz c))) ∧ N0 = [(m0, jO 7 [.int (iI 0), .int (iI ask), .int (iI (rf c fnd)), .ref m1, .ref m2, .ref m3, .int (iI n), .int (iI wd), .ref m4, .ref m5, .int (iI mm), .ref m6, .ref m7, .int (iI um), .ref m8, .ref m9, .ref m10, .ref m11, .int (iI pd), .int (iI nd), .ref m12, .int (iI pal)]), (m1, jA E 5 (aI (rm c fm))), (m2, jA E 192 rw0), (m3, jA E 4 (aI rn))]) := by
  refine MC.of (by decide) rfl rfl ?_
  refine j_aload_0 1 dX7_tree_0 rfl ?_
  refine j_iconst 2 dX7_tree_1 ?_
  refine j_put 5 0 pf_X7_46 dX7_tree_2 rfl ⟨rfl, rfl, rfl⟩ ?_
  refine j_iload_1 6 dX7_tree_5 rfl ?_
  refine j_callSi 9 Y_X7_isRow [] [_] (c_X7_isRow E _ (by first | with_reducible assumption | with_reducible exact iI_rng _ | exact ⟨by omega, by omega⟩)) m_X7_isRow wml_X7_60 dX7_tree_6 rfl rfl rfl rfl rfl rfl rfl ?_
  refine j_bif_ne 14 12 dX7_tree_9 (fun q9 => ?_) (fun q9 => ?_)
  · refine j_aload_0 15 dX7_tree_14 rfl ?_
    refine j_get 18 0 gf_X7_16 dX7_tree_15 rfl rfl ?_
    refine j_iload_1 19 dX7_tree_18 rfl ?_
    refine j_ialdw 20 3 _ ((n2 : Int)) dX7_tree_19 rfl rfl rfl (by omega) (by show iI (rn r) = _; rw [hn2]) ?_
    refine j_if_ge 29 23 dX7_tree_20 (by first | with_reducible exact iI_rng _ | with_reducible exact bI_r _ | exact ⟨by omega, by omega⟩) (fun q20 => ?_) (fun q20 => ?_)
    · refine j_aload_0 30 dX7_tree_29 rfl ?_
      refine j_get 33 0 gf_X7_16 dX7_tree_30 rfl rfl ?_
      refine j_iload_1 34 dX7_tree_33 rfl ?_
      refine j_ialdw 35 3 _ ((n2 : Int)) dX7_tree_34 rfl rfl rfl (by omega) (by show iI (rn r) = _; rw [hn2]) ?_
      refine j_iconst 36 dX7_tree_35 ?_
      refine j_bipush 38 dX7_tree_36 (by decide +kernel) ?_
      refine j_callSi 41 Y_X7_in [] [_, _, _] (c_X7_in E _ _ _ (by first | with_reducible assumption | with_reducible exact iI_rng _ | exact ⟨by omega, by omega⟩) (by first | with_reducible assumption | with_reducible exact iI_rng _ | exact ⟨by omega, by omega⟩) (by first | with_reducible assumption | with_reducible exact iI_rng _ | exact ⟨by omega, by omega⟩)) m_X7_in wml_X7_56 dX7_tree_38 rfl rfl rfl rfl rfl rfl rfl ?_
      refine j_bif_ne 50 44 dX7_tree_41 (fun q41 => ?_) (fun q41 => ?_)
      · refine j_aload_0 51 dX7_tree_50 rfl ?_
        refine j_iload_1 52 dX7_tree_51 rfl ?_
        refine j_callVi 55 Y_X7_isTree [0, 2, 3] [_] (c_X7_isTree E _ _ _ _ _ _ _ _ _ _ _ _ _ _ _ _ _ _ _ _ _ _ _ _ _ r n2 hr4 hn2 (by omega)) m_X7_isTree wml_X7_137 dX7_tree_52 0 rfl rfl rfl rfl rfl rfl rfl rfl rfl rfl ?_
        refine j_top 0 (congrArg iI (toB_f hT)) ?_
        refine j_if_ne 64 58 dX7_tree_55 (by first | with_reducible exact iI_rng _ | with_reducible exact bI_r _ | exact ⟨by omega, by omega⟩) (fun q55 => ?_) (fun q55 => ?_)
        · omega
        · refine j_aload_0 59 dX7_tree_58 rfl ?_
          refine j_iconst 60 dX7_tree_59 ?_
          refine j_callV 63 Y_X7_found [0, 1] [_] (c_X7_found E _ _ _ _ _ _ _ _ _ _ _ _ _ _ _ _ _ _ _ _ _ _ _ _ 4 (by decide)) m_X7_found wml_X7_64 dX7_tree_60 0 rfl rfl rfl rfl rfl rfl rfl rfl rfl (fun r N h => by obtain ⟨rfl, rfl⟩ := h; rfl) (fun r N h => ?_)
          obtain ⟨rfl, rfl⟩ := h
          obtain rfl : c = 4 := by omega
          exact j_iret dX7_tree_63 rfl rfl ⟨rfl, rfl⟩
      · omega
    · omega
  · omega

set_option maxRecDepth 100000 in
set_option maxHeartbeats 4000000 in
theorem lp7_tree (E : jD) (fnd : Int) (ask : Int) (wd : Int) (n : Int) (mm : Int) (um : Int) (m0 : Nat) (m1 : Nat) (m2 : Nat) (m3 : Nat) (m4 : Nat) (m5 : Nat) (m6 : Nat) (m7 : Nat) (m8 : Nat) (m9 : Nat) (m10 : Nat) (m11 : Nat) (m12 : Nat) (pd : Int) (pal : Int) (rn : Nat → Int) (rw0 : Nat → Int32) (ab : Nat → Int32) (r n2 : Nat) (hr4 : r < 4) (hn2 : rn r = (n2 : Int)) (hN : 1 ≤ n2 ∧ n2 ≤ 24) : ∀ (d : Nat) (k : Nat), n2 - k < d → (k ≤ n2) → J E Y_X7_tree (jZm E Y_X7_tree (fun rr N0 => rr = some (.int (iI ((n2 : Int)))) ∧ N0 = [(m0, jO 7 [.int (iI 0), .int (iI ask), .int (iI fnd), .ref m1, .ref m2, .ref m3, .int (iI n), .int (iI wd), .ref m4, .ref m5, .int (iI mm), .ref m6, .ref m7, .int (iI um), .ref m8, .ref m9, .ref m10, .ref m11, .int (iI pd), .int (iI (n2 : Int)), .ref m12, .int (iI pal)]), (m2, jA E 192 rw0), (m3, jA E 4 (aI rn)), (m12, jA E 24 (cpF rw0 ab (48 * r) 0 n2))])) 0 0 76 [(0, .ref m0), (1, .int (iI (r : Int))), (2, .int (iI (k : Int)))] [] [(m0, jO 7 [.int (iI 0), .int (iI ask), .int (iI fnd), .ref m1, .ref m2, .ref m3, .int (iI n), .int (iI wd), .ref m4, .ref m5, .int (iI mm), .ref m6, .ref m7, .int (iI um), .ref m8, .ref m9, .ref m10, .ref m11, .int (iI pd), .int (iI (n2 : Int)), .ref m12, .int (iI pal)]), (m2, jA E 192 rw0), (m3, jA E 4 (aI rn)), (m12, jA E 24 (cpF rw0 ab (48 * r) 0 k))] := by
  intro d
  induction d with
  | zero => intros; omega
  | succ d ih =>
    intro k hd hk
    refine j_iload_2 77 dX7_tree_76 rfl ?_
    refine j_aload_0 78 dX7_tree_77 rfl ?_
    refine j_get 81 0 gf_X7_140 dX7_tree_78 rfl rfl ?_
    refine j_icmp_ge 107 84 dX7_tree_81 (by first | with_reducible exact iI_rng _ | with_reducible exact bI_r _ | exact ⟨by omega, by omega⟩) (by first | with_reducible exact iI_rng _ | with_reducible exact bI_r _ | exact ⟨by omega, by omega⟩) (fun q81 => ?_) (fun q81 => ?_)
    · obtain rfl : n2 = k := by omega
      refine j_aload_0 108 dX7_tree_107 rfl ?_
      refine j_get 111 0 gf_X7_140 dX7_tree_108 rfl rfl ?_
      exact j_iret dX7_tree_111 rfl rfl ⟨rfl, rfl⟩
    · refine j_aload_0 85 dX7_tree_84 rfl ?_
      refine j_get 88 0 gf_X7_43 dX7_tree_85 rfl rfl ?_
      refine j_iload_2 89 dX7_tree_88 rfl ?_
      refine j_aload_0 90 dX7_tree_89 rfl ?_
      refine j_get 93 0 gf_X7_13 dX7_tree_90 rfl rfl ?_
      refine j_bipush 95 dX7_tree_93 (by decide +kernel) ?_
      refine j_iload_1 96 dX7_tree_95 rfl ?_
      refine j_imul 97 dX7_tree_96 ?_
      refine j_iload_2 98 dX7_tree_97 rfl ?_
      refine j_iadd 99 dX7_tree_98 ?_
      refine j_ialdx 100 1 (48 * r + k) dX7_tree_99 rfl rfl (by omega) (by omega) ?_
      refine j_iast 101 3 _ dX7_tree_100 rfl rfl rfl (by omega) ?_
      refine j_eqM (M' := [(m0, jO 7 [.int (iI 0), .int (iI ask), .int (iI fnd), .ref m1, .ref m2, .ref m3, .int (iI n), .int (iI wd), .ref m4, .ref m5, .int (iI mm), .ref m6, .ref m7, .int (iI um), .ref m8, .ref m9, .ref m10, .ref m11, .int (iI pd), .int (iI (n2 : Int)), .ref m12, .int (iI pal)]), (m2, jA E 192 rw0), (m3, jA E 4 (aI rn)), (m12, jA E 24 (cpF rw0 ab (48 * r) 0 (k + 1)))]) (by rw [← cpF_s, Nat.zero_add]; rfl) ?_
      refine j_iinc 104 (lv' := [(0, _), (1, _), (2, _)]) dX7_tree_101 rfl rfl ⟨rfl, rfl⟩ ?_
      refine j_goto 76 dX7_tree_104 ?_
      exact ih (k + 1) (by omega) (by omega)

set_option maxRecDepth 100000 in
set_option maxHeartbeats 4000000 in
theorem c_X7_tree_ok (E : jD) (fnd : Int) (ask : Int) (wd : Int) (n : Int) (mm : Int) (um : Int) (nd : Int) (m0 : Nat) (m1 : Nat) (m2 : Nat) (m3 : Nat) (m4 : Nat) (m5 : Nat) (m6 : Nat) (m7 : Nat) (m8 : Nat) (m9 : Nat) (m10 : Nat) (m11 : Nat) (m12 : Nat) (thr : Int) (pd : Int) (pal : Int) (rn : Nat → Int) (rw0 : Nat → Int32) (ab : Nat → Int32) (r n2 : Nat) (hr4 : r < 4) (hn2 : rn r = (n2 : Int)) (hN : 1 ≤ n2 ∧ n2 ≤ 24) (hT : toldP (fun k => (rw0 (48 * r + k)).toInt) n2) : MC E Y_X7_tree [.ref m0, .int (iI (r : Int))] [(m0, jO 7 [.int (iI thr), .int (iI ask), .int (iI fnd), .ref m1, .ref m2, .ref m3, .int (iI n), .int (iI wd), .ref m4, .ref m5, .int (iI mm), .ref m6, .ref m7, .int (iI um), .ref m8, .ref m9, .ref m10, .ref m11, .int (iI pd), .int (iI nd), .ref m12, .int (iI pal)]), (m2, jA E 192 rw0), (m3, jA E 4 (aI rn)), (m12, jA E 24 ab)] (fun rr N0 => rr = some (.int (iI ((n2 : Int)))) ∧ N0 = [(m0, jO 7 [.int (iI 0), .int (iI ask), .int (iI fnd), .ref m1, .ref m2, .ref m3, .int (iI n), .int (iI wd), .ref m4, .ref m5, .int (iI mm), .ref m6, .ref m7, .int (iI um), .ref m8, .ref m9, .ref m10, .ref m11, .int (iI pd), .int (iI (n2 : Int)), .ref m12, .int (iI pal)]), (m2, jA E 192 rw0), (m3, jA E 4 (aI rn)), (m12, jA E 24 (cpF rw0 ab (48 * r) 0 n2))]) := by
  refine MC.of (by decide) rfl rfl ?_
  refine j_aload_0 1 dX7_tree_0 rfl ?_
  refine j_iconst 2 dX7_tree_1 ?_
  refine j_put 5 0 pf_X7_46 dX7_tree_2 rfl ⟨rfl, rfl, rfl⟩ ?_
  refine j_iload_1 6 dX7_tree_5 rfl ?_
  refine j_callSi 9 Y_X7_isRow [] [_] (c_X7_isRow E _ (by first | with_reducible assumption | with_reducible exact iI_rng _ | exact ⟨by omega, by omega⟩)) m_X7_isRow wml_X7_60 dX7_tree_6 rfl rfl rfl rfl rfl rfl rfl ?_
  refine j_bif_ne 14 12 dX7_tree_9 (fun q9 => ?_) (fun q9 => ?_)
  · refine j_aload_0 15 dX7_tree_14 rfl ?_
    refine j_get 18 0 gf_X7_16 dX7_tree_15 rfl rfl ?_
    refine j_iload_1 19 dX7_tree_18 rfl ?_
    refine j_ialdw 20 2 _ ((n2 : Int)) dX7_tree_19 rfl rfl rfl (by omega) (by show iI (rn r) = _; rw [hn2]) ?_
    refine j_if_ge 29 23 dX7_tree_20 (by first | with_reducible exact iI_rng _ | with_reducible exact bI_r _ | exact ⟨by omega, by omega⟩) (fun q20 => ?_) (fun q20 => ?_)
    · refine j_aload_0 30 dX7_tree_29 rfl ?_
      refine j_get 33 0 gf_X7_16 dX7_tree_30 rfl rfl ?_
      refine j_iload_1 34 dX7_tree_33 rfl ?_
      refine j_ialdw 35 2 _ ((n2 : Int)) dX7_tree_34 rfl rfl rfl (by omega) (by show iI (rn r) = _; rw [hn2]) ?_
      refine j_iconst 36 dX7_tree_35 ?_
      refine j_bipush 38 dX7_tree_36 (by decide +kernel) ?_
      refine j_callSi 41 Y_X7_in [] [_, _, _] (c_X7_in E _ _ _ (by first | with_reducible assumption | with_reducible exact iI_rng _ | exact ⟨by omega, by omega⟩) (by first | with_reducible assumption | with_reducible exact iI_rng _ | exact ⟨by omega, by omega⟩) (by first | with_reducible assumption | with_reducible exact iI_rng _ | exact ⟨by omega, by omega⟩)) m_X7_in wml_X7_56 dX7_tree_38 rfl rfl rfl rfl rfl rfl rfl ?_
      refine j_bif_ne 50 44 dX7_tree_41 (fun q41 => ?_) (fun q41 => ?_)
      · refine j_aload_0 51 dX7_tree_50 rfl ?_
        refine j_iload_1 52 dX7_tree_51 rfl ?_
        refine j_callVi 55 Y_X7_isTree [0, 1, 2] [_] (c_X7_isTree E _ _ _ _ _ _ _ _ _ _ _ _ _ _ _ _ _ _ _ _ _ _ _ _ _ r n2 hr4 hn2 (by omega)) m_X7_isTree wml_X7_137 dX7_tree_52 0 rfl rfl rfl rfl rfl rfl rfl rfl rfl rfl ?_
        refine j_top 1 (congrArg iI (toB_t hT)) ?_
        refine j_if_ne 64 58 dX7_tree_55 (by first | with_reducible exact iI_rng _ | with_reducible exact bI_r _ | exact ⟨by omega, by omega⟩) (fun q55 => ?_) (fun q55 => ?_)
        · refine j_aload_0 65 dX7_tree_64 rfl ?_
          refine j_aload_0 66 dX7_tree_65 rfl ?_
          refine j_get 69 0 gf_X7_16 dX7_tree_66 rfl rfl ?_
          refine j_iload_1 70 dX7_tree_69 rfl ?_
          refine j_ialdw 71 2 _ ((n2 : Int)) dX7_tree_70 rfl rfl rfl (by omega) (by show iI (rn r) = _; rw [hn2]) ?_
          refine j_put 74 0 pf_X7_140 dX7_tree_71 rfl ⟨rfl, rfl, rfl⟩ ?_
          refine j_iconst 75 dX7_tree_74 ?_
          refine j_istore_2 76 (lv' := [(0, _), (1, _), (2, _)]) dX7_tree_75 rfl ⟨rfl, rfl⟩ ?_
          refine j_eqM (M' := [(m0, jO 7 [.int (iI 0), .int (iI ask), .int (iI fnd), .ref m1, .ref m2, .ref m3, .int (iI n), .int (iI wd), .ref m4, .ref m5, .int (iI mm), .ref m6, .ref m7, .int (iI um), .ref m8, .ref m9, .ref m10, .ref m11, .int (iI pd), .int (iI (n2 : Int)), .ref m12, .int (iI pal)]), (m2, jA E 192 rw0), (m3, jA E 4 (aI rn)), (m12, jA E 24 (cpF rw0 ab (48 * r) 0 0))]) (by rw [cpF_0]; rfl) ?_
          exact lp7_tree E fnd ask wd n mm um m0 m1 m2 m3 m4 m5 m6 m7 m8 m9 m10 m11 m12 pd pal rn rw0 ab r n2 hr4 hn2 hN (n2 + 1) 0 (by omega) (by omega)
        · omega
      · omega
    · omega
  · omega

set_option maxRecDepth 100000 in
set_option maxHeartbeats 4000000 in
theorem c_X7_meet_ok (E : jD) (fnd : Int) (ask : Int) (wd : Int) (n : Int) (mm : Int) (um : Int) (m0 : Nat) (m1 : Nat) (m2 : Nat) (m3 : Nat) (m4 : Nat) (m5 : Nat) (m6 : Nat) (m7 : Nat) (m8 : Nat) (m9 : Nat) (m10 : Nat) (m11 : Nat) (m12 : Nat) (thr : Int) (pd : Int) (pal : Int) (ab : Nat → Int32) (nd : Nat) (p : Nat → Int) (u v : Nat) (hnd : nd ≤ 24) (hpk : ∀ k, k < nd → (ab k).toInt = p k) (hp : inT p nd) (hsr : ∀ k, k < nd → srF p nd k < nd) (hu : u < nd) (hv : v < nd) (hone : upF p (srF p nd u) u = upF p (srF p nd v) v) : MC E Y_X7_meet [.ref m0, .int (iI (u : Int)), .int (iI (v : Int))] [(m0, jO 7 [.int (iI thr), .int (iI ask), .int (iI fnd), .ref m1, .ref m2, .ref m3, .int (iI n), .int (iI wd), .ref m4, .ref m5, .int (iI mm), .ref m6, .ref m7, .int (iI um), .ref m8, .ref m9, .ref m10, .ref m11, .int (iI pd), .int (iI (nd : Int)), .ref m12, .int (iI pal)]), (m12, jA E 24 ab)] (fun rr N0 => rr = some (.int (iI (((upF p (srF p nd u - (mdF p nd u v (min (srF p nd u) (srF p nd v)))) u) : Nat)))) ∧ N0 = [(m0, jO 7 [.int (iI 0), .int (iI ask), .int (iI fnd), .ref m1, .ref m2, .ref m3, .int (iI n), .int (iI wd), .ref m4, .ref m5, .int (iI mm), .ref m6, .ref m7, .int (iI um), .ref m8, .ref m9, .ref m10, .ref m11, .int (iI pd), .int (iI (nd : Int)), .ref m12, .int (iI pal)]), (m12, jA E 24 ab)]) := by
  refine MC.of (by decide) rfl rfl ?_
  refine j_aload_0 1 dX7_meet_0 rfl ?_
  refine j_iconst 2 dX7_meet_1 ?_
  refine j_put 5 0 pf_X7_46 dX7_meet_2 rfl ⟨rfl, rfl, rfl⟩ ?_
  refine j_aload_0 6 dX7_meet_5 rfl ?_
  refine j_iload_1 7 dX7_meet_6 rfl ?_
  refine j_iload_2 8 dX7_meet_7 rfl ?_
  refine j_callVi 11 Y_X7_againstNodes [0] [_, _] (c_X7_againstNodes_ok E _ _ _ _ _ _ _ _ _ _ _ _ _ _ _ _ _ _ _ _ _ _ _ _ _ (by omega) (by omega) (by omega)) m_X7_againstNodes wml_X7_152 dX7_meet_8 0 rfl rfl rfl rfl rfl rfl rfl rfl rfl rfl ?_
  refine j_istore_3 12 (lv' := [(0, _), (1, _), (2, _), (3, _)]) dX7_meet_11 rfl ⟨rfl, rfl⟩ ?_
  refine j_iload_3 13 dX7_meet_12 rfl ?_
  refine j_if_eq 20 16 dX7_meet_13 (by first | with_reducible exact iI_rng _ | with_reducible exact bI_r _ | exact ⟨by omega, by omega⟩) (fun q13 => ?_) (fun q13 => ?_)
  · refine j_aload_0 21 dX7_meet_20 rfl ?_
    refine j_iload_1 22 dX7_meet_21 rfl ?_
    refine j_iload_2 23 dX7_meet_22 rfl ?_
    refine j_callVi 26 Y_X7_meeting [0, 1] [_, _] (c_X7_meeting E _ _ _ _ _ _ _ _ _ _ _ _ _ _ _ _ _ _ _ _ _ _ _ _ p _ _ hnd hpk hp hsr hu hv hone) m_X7_meeting wml_X7_155 dX7_meet_23 0 rfl rfl rfl rfl rfl rfl rfl rfl rfl rfl ?_
    exact j_iret dX7_meet_26 rfl rfl ⟨rfl, rfl⟩
  · omega

set_option maxRecDepth 100000 in
set_option maxHeartbeats 4000000 in
theorem c_X7_apart_ok (E : jD) (fnd : Int) (ask : Int) (wd : Int) (n : Int) (mm : Int) (um : Int) (m0 : Nat) (m1 : Nat) (m2 : Nat) (m3 : Nat) (m4 : Nat) (m5 : Nat) (m6 : Nat) (m7 : Nat) (m8 : Nat) (m9 : Nat) (m10 : Nat) (m11 : Nat) (m12 : Nat) (thr : Int) (pd : Int) (pal : Int) (ab : Nat → Int32) (nd : Nat) (p : Nat → Int) (u v : Nat) (hnd : nd ≤ 24) (hpk : ∀ k, k < nd → (ab k).toInt = p k) (hp : inT p nd) (hsr : ∀ k, k < nd → srF p nd k < nd) (hu : u < nd) (hv : v < nd) (hone : upF p (srF p nd u) u = upF p (srF p nd v) v) : MC E Y_X7_apart [.ref m0, .int (iI (u : Int)), .int (iI (v : Int))] [(m0, jO 7 [.int (iI thr), .int (iI ask), .int (iI fnd), .ref m1, .ref m2, .ref m3, .int (iI n), .int (iI wd), .ref m4, .ref m5, .int (iI mm), .ref m6, .ref m7, .int (iI um), .ref m8, .ref m9, .ref m10, .ref m11, .int (iI pd), .int (iI (nd : Int)), .ref m12, .int (iI pal)]), (m12, jA E 24 ab)] (fun rr N0 => rr = some (.int (iI ((srF p nd u : Int) + srF p nd v - 2 * (srF p nd (upF p (srF p nd u - (mdF p nd u v (min (srF p nd u) (srF p nd v)))) u) : Nat)))) ∧ N0 = [(m0, jO 7 [.int (iI 0), .int (iI ask), .int (iI fnd), .ref m1, .ref m2, .ref m3, .int (iI n), .int (iI wd), .ref m4, .ref m5, .int (iI mm), .ref m6, .ref m7, .int (iI um), .ref m8, .ref m9, .ref m10, .ref m11, .int (iI pd), .int (iI (nd : Int)), .ref m12, .int (iI pal)]), (m12, jA E 24 ab)]) := by
  refine MC.of (by decide) rfl rfl ?_
  have hmm : (upF p (srF p nd u - (mdF p nd u v (min (srF p nd u) (srF p nd v)))) u) < nd := (up_in hp nd u hu _ (by omega)).1
  refine j_aload_0 1 dX7_apart_0 rfl ?_
  refine j_iconst 2 dX7_apart_1 ?_
  refine j_put 5 0 pf_X7_46 dX7_apart_2 rfl ⟨rfl, rfl, rfl⟩ ?_
  refine j_aload_0 6 dX7_apart_5 rfl ?_
  refine j_iload_1 7 dX7_apart_6 rfl ?_
  refine j_iload_2 8 dX7_apart_7 rfl ?_
  refine j_callVi 11 Y_X7_againstNodes [0] [_, _] (c_X7_againstNodes_ok E _ _ _ _ _ _ _ _ _ _ _ _ _ _ _ _ _ _ _ _ _ _ _ _ _ (by omega) (by omega) (by omega)) m_X7_againstNodes wml_X7_152 dX7_apart_8 0 rfl rfl rfl rfl rfl rfl rfl rfl rfl rfl ?_
  refine j_istore_3 12 (lv' := [(0, _), (1, _), (2, _), (3, _)]) dX7_apart_11 rfl ⟨rfl, rfl⟩ ?_
  refine j_iload_3 13 dX7_apart_12 rfl ?_
  refine j_if_eq 20 16 dX7_apart_13 (by first | with_reducible exact iI_rng _ | with_reducible exact bI_r _ | exact ⟨by omega, by omega⟩) (fun q13 => ?_) (fun q13 => ?_)
  · refine j_aload_0 21 dX7_apart_20 rfl ?_
    refine j_iload_1 22 dX7_apart_21 rfl ?_
    refine j_callVi 25 Y_X7_deepness [0, 1] [_] (c_X7_deepness E _ _ _ _ _ _ _ _ _ _ _ _ _ _ _ _ _ _ _ _ _ _ _ _ p _ hnd hpk hp hsr (by omega)) m_X7_deepness wml_X7_143 dX7_apart_22 0 rfl rfl rfl rfl rfl rfl rfl rfl rfl rfl ?_
    refine j_aload_0 26 dX7_apart_25 rfl ?_
    refine j_iload_2 27 dX7_apart_26 rfl ?_
    refine j_callVi 30 Y_X7_deepness [0, 1] [_] (c_X7_deepness E _ _ _ _ _ _ _ _ _ _ _ _ _ _ _ _ _ _ _ _ _ _ _ _ p _ hnd hpk hp hsr (by omega)) m_X7_deepness wml_X7_143 dX7_apart_27 0 rfl rfl rfl rfl rfl rfl rfl rfl rfl rfl ?_
    refine j_iadd 31 dX7_apart_30 ?_
    refine j_iconst 32 dX7_apart_31 ?_
    refine j_aload_0 33 dX7_apart_32 rfl ?_
    refine j_aload_0 34 dX7_apart_33 rfl ?_
    refine j_iload_1 35 dX7_apart_34 rfl ?_
    refine j_iload_2 36 dX7_apart_35 rfl ?_
    refine j_callVi 39 Y_X7_meeting [0, 1] [_, _] (c_X7_meeting E _ _ _ _ _ _ _ _ _ _ _ _ _ _ _ _ _ _ _ _ _ _ _ _ p _ _ hnd hpk hp hsr hu hv hone) m_X7_meeting wml_X7_155 dX7_apart_36 0 rfl rfl rfl rfl rfl rfl rfl rfl rfl rfl ?_
    refine j_callVi 42 Y_X7_deepness [0, 1] [_] (c_X7_deepness E _ _ _ _ _ _ _ _ _ _ _ _ _ _ _ _ _ _ _ _ _ _ _ _ p _ hnd hpk hp hsr hmm) m_X7_deepness wml_X7_143 dX7_apart_39 0 rfl rfl rfl rfl rfl rfl rfl rfl rfl rfl ?_
    refine j_imul 43 dX7_apart_42 ?_
    refine j_isub 44 dX7_apart_43 ?_
    exact j_iret dX7_apart_44 rfl rfl ⟨rfl, rfl⟩
  · omega

set_option maxRecDepth 100000 in
set_option maxHeartbeats 4000000 in
theorem c_X7_up_bey (E : jD) (fnd : Int) (ask : Int) (wd : Int) (n : Int) (mm : Int) (um : Int) (nd : Int) (fm : Nat → Int) (m0 : Nat) (m1 : Nat) (m2 : Nat) (m3 : Nat) (m4 : Nat) (m5 : Nat) (m6 : Nat) (m7 : Nat) (m8 : Nat) (m9 : Nat) (m10 : Nat) (m11 : Nat) (m12 : Nat) (thr : Int) (pd : Int) (pal : Int) (u : Nat) (d c : Int) (hnd : 0 ≤ nd ∧ nd ≤ 24) (hu : (u : Int) < nd) (hd : jr d) (hc : d < 0 ∧ c = 2) : MC E Y_X7_up [.ref m0, .int (iI (u : Int)), .int (iI d)] [(m0, jO 7 [.int (iI thr), .int (iI ask), .int (iI fnd), .ref m1, .ref m2, .ref m3, .int (iI n), .int (iI wd), .ref m4, .ref m5, .int (iI mm), .ref m6, .ref m7, .int (iI um), .ref m8, .ref m9, .ref m10, .ref m11, .int (iI pd), .int (iI nd), .ref m12, .int (iI pal)]), (m1, jA E 5 (aI fm))] (fun rr N0 => rr = some (.int (iI (rz c))) ∧ N0 = [(m0, jO 7 [.int (iI 0), .int (iI ask), .int (iI (rf c fnd)), .ref m1, .ref m2, .ref m3, .int (iI n), .int (iI wd), .ref m4, .ref m5, .int (iI mm), .ref m6, .ref m7, .int (iI um), .ref m8, .ref m9, .ref m10, .ref m11, .int (iI pd), .int (iI nd), .ref m12, .int (iI pal)]), (m1, jA E 5 (aI (rm c fm)))]) := by
  refine MC.of (by decide) rfl rfl ?_
  refine j_aload_0 1 dX7_up_0 rfl ?_
  refine j_iconst 2 dX7_up_1 ?_
  refine j_put 5 0 pf_X7_46 dX7_up_2 rfl ⟨rfl, rfl, rfl⟩ ?_
  refine j_aload_0 6 dX7_up_5 rfl ?_
  refine j_iload_1 7 dX7_up_6 rfl ?_
  refine j_iload_1 8 dX7_up_7 rfl ?_
  refine j_callVi 11 Y_X7_againstNodes [0] [_, _] (c_X7_againstNodes_ok E _ _ _ _ _ _ _ _ _ _ _ _ _ _ _ _ _ _ _ _ _ _ _ _ _ (by omega) (by omega) (by omega)) m_X7_againstNodes wml_X7_152 dX7_up_8 0 rfl rfl rfl rfl rfl rfl rfl rfl rfl rfl ?_
  refine j_istore_3 12 (lv' := [(0, _), (1, _), (2, _), (3, _)]) dX7_up_11 rfl ⟨rfl, rfl⟩ ?_
  refine j_iload_3 13 dX7_up_12 rfl ?_
  refine j_if_eq 18 16 dX7_up_13 (by first | with_reducible exact iI_rng _ | with_reducible exact bI_r _ | exact ⟨by omega, by omega⟩) (fun q13 => ?_) (fun q13 => ?_)
  · refine j_iload_2 19 dX7_up_18 rfl ?_
    refine j_if_ge 28 22 dX7_up_19 (by first | with_reducible exact iI_rng _ | with_reducible exact bI_r _ | exact ⟨by omega, by omega⟩) (fun q19 => ?_) (fun q19 => ?_)
    · omega
    · refine j_aload_0 23 dX7_up_22 rfl ?_
      refine j_iconst 24 dX7_up_23 ?_
      refine j_callV 27 Y_X7_found [0, 1] [_] (c_X7_found E _ _ _ _ _ _ _ _ _ _ _ _ _ _ _ _ _ _ _ _ _ _ _ _ 2 (by decide)) m_X7_found wml_X7_64 dX7_up_24 0 rfl rfl rfl rfl rfl rfl rfl rfl rfl (fun r N h => by obtain ⟨rfl, rfl⟩ := h; rfl) (fun r N h => ?_)
      obtain ⟨rfl, rfl⟩ := h
      obtain rfl : c = 2 := by omega
      exact j_iret dX7_up_27 rfl rfl ⟨rfl, rfl⟩
  · omega

set_option maxRecDepth 100000 in
set_option maxHeartbeats 4000000 in
theorem c_X7_up_ok (E : jD) (fnd : Int) (ask : Int) (wd : Int) (n : Int) (mm : Int) (um : Int) (m0 : Nat) (m1 : Nat) (m2 : Nat) (m3 : Nat) (m4 : Nat) (m5 : Nat) (m6 : Nat) (m7 : Nat) (m8 : Nat) (m9 : Nat) (m10 : Nat) (m11 : Nat) (m12 : Nat) (thr : Int) (pd : Int) (pal : Int) (ab : Nat → Int32) (nd : Nat) (p : Nat → Int) (u : Nat) (d : Int) (hnd : nd ≤ 24) (hpk : ∀ k, k < nd → (ab k).toInt = p k) (hp : inT p nd) (hsr : ∀ k, k < nd → srF p nd k < nd) (hu : u < nd) (hd : 0 ≤ d) (hdr : jr d) : MC E Y_X7_up [.ref m0, .int (iI (u : Int)), .int (iI d)] [(m0, jO 7 [.int (iI thr), .int (iI ask), .int (iI fnd), .ref m1, .ref m2, .ref m3, .int (iI n), .int (iI wd), .ref m4, .ref m5, .int (iI mm), .ref m6, .ref m7, .int (iI um), .ref m8, .ref m9, .ref m10, .ref m11, .int (iI pd), .int (iI (nd : Int)), .ref m12, .int (iI pal)]), (m12, jA E 24 ab)] (fun rr N0 => rr = some (.int (iI ((if (srF p nd u : Int) < d then -9 else ((upF p (srF p nd u - d.toNat) u : Nat) : Int))))) ∧ N0 = [(m0, jO 7 [.int (iI 0), .int (iI ask), .int (iI fnd), .ref m1, .ref m2, .ref m3, .int (iI n), .int (iI wd), .ref m4, .ref m5, .int (iI mm), .ref m6, .ref m7, .int (iI um), .ref m8, .ref m9, .ref m10, .ref m11, .int (iI pd), .int (iI (nd : Int)), .ref m12, .int (iI pal)]), (m12, jA E 24 ab)]) := by
  refine MC.of (by decide) rfl rfl ?_
  have hsl := srF_le p nd u
  refine j_aload_0 1 dX7_up_0 rfl ?_
  refine j_iconst 2 dX7_up_1 ?_
  refine j_put 5 0 pf_X7_46 dX7_up_2 rfl ⟨rfl, rfl, rfl⟩ ?_
  refine j_aload_0 6 dX7_up_5 rfl ?_
  refine j_iload_1 7 dX7_up_6 rfl ?_
  refine j_iload_1 8 dX7_up_7 rfl ?_
  refine j_callVi 11 Y_X7_againstNodes [0] [_, _] (c_X7_againstNodes_ok E _ _ _ _ _ _ _ _ _ _ _ _ _ _ _ _ _ _ _ _ _ _ _ _ _ (by omega) (by omega) (by omega)) m_X7_againstNodes wml_X7_152 dX7_up_8 0 rfl rfl rfl rfl rfl rfl rfl rfl rfl rfl ?_
  refine j_istore_3 12 (lv' := [(0, _), (1, _), (2, _), (3, _)]) dX7_up_11 rfl ⟨rfl, rfl⟩ ?_
  refine j_iload_3 13 dX7_up_12 rfl ?_
  refine j_if_eq 18 16 dX7_up_13 (by first | with_reducible exact iI_rng _ | with_reducible exact bI_r _ | exact ⟨by omega, by omega⟩) (fun q13 => ?_) (fun q13 => ?_)
  · refine j_iload_2 19 dX7_up_18 rfl ?_
    refine j_if_ge 28 22 dX7_up_19 (by first | with_reducible exact iI_rng _ | with_reducible exact bI_r _ | exact ⟨by omega, by omega⟩) (fun q19 => ?_) (fun q19 => ?_)
    · refine j_aload_0 29 dX7_up_28 rfl ?_
      refine j_iload_1 30 dX7_up_29 rfl ?_
      refine j_callVi 33 Y_X7_deepness [0, 1] [_] (c_X7_deepness E _ _ _ _ _ _ _ _ _ _ _ _ _ _ _ _ _ _ _ _ _ _ _ _ p _ hnd hpk hp hsr (by omega)) m_X7_deepness wml_X7_143 dX7_up_30 0 rfl rfl rfl rfl rfl rfl rfl rfl rfl rfl ?_
      refine j_iload_2 34 dX7_up_33 rfl ?_
      refine j_icmp_ge 42 37 dX7_up_34 (by first | with_reducible exact iI_rng _ | with_reducible exact bI_r _ | exact ⟨by omega, by omega⟩) (by first | with_reducible exact iI_rng _ | with_reducible exact bI_r _ | exact ⟨by omega, by omega⟩) (fun q34 => ?_) (fun q34 => ?_)
      · obtain ⟨dd, rfl⟩ : ∃ q : Nat, d = (q : Int) := ⟨d.toNat, by omega⟩
        refine j_aload_0 43 dX7_up_42 rfl ?_
        refine j_iload_1 44 dX7_up_43 rfl ?_
        refine j_iload_2 45 dX7_up_44 rfl ?_
        refine j_callVi 48 Y_X7_upTo [0, 1] [_, _] (c_X7_upTo E _ _ _ _ _ _ _ _ _ _ _ _ _ _ _ _ _ _ _ _ _ _ _ _ p _ dd hnd hpk hp hsr hu (by omega)) m_X7_upTo wml_X7_146 dX7_up_45 0 rfl rfl rfl rfl rfl rfl rfl rfl rfl rfl ?_
        exact j_iret dX7_up_48 rfl rfl ⟨congrArg (fun z => some (Value.int (iI z))) (by first | exact (if_pos (by omega)).symm | exact (if_neg (by omega)).symm), rfl⟩
      · refine j_bipush 39 dX7_up_37 (by decide +kernel) ?_
        refine j_goto 48 dX7_up_39 ?_
        exact j_iret dX7_up_48 rfl rfl ⟨congrArg (fun z => some (Value.int (iI z))) (by first | exact (if_pos (by omega)).symm | exact (if_neg (by omega)).symm), rfl⟩
    · omega
  · omega

set_option maxRecDepth 100000 in
set_option maxHeartbeats 4000000 in
theorem c_X7_node_no (E : jD) (fnd : Int) (ask : Int) (wd : Int) (n : Int) (mm : Int) (um : Int) (nd : Int) (fm : Nat → Int) (m0 : Nat) (m1 : Nat) (m2 : Nat) (m3 : Nat) (m4 : Nat) (m5 : Nat) (m6 : Nat) (m7 : Nat) (m8 : Nat) (m9 : Nat) (m10 : Nat) (m11 : Nat) (m12 : Nat) (thr : Int) (pd : Int) (pal : Int) (u q c : Int) (hnd : 0 ≤ nd ∧ nd ≤ 24) (hu : jr u) (hq0 : jr q) (hc : (nd = 0 ∧ c = -2) ∨ (¬ nd = 0 ∧ (q < 0 ∨ 2 < q) ∧ c = -1) ∨ (¬ nd = 0 ∧ 0 ≤ q ∧ q ≤ 2 ∧ (u < 0 ∨ nd ≤ u) ∧ c = 2)) : MC E Y_X7_node [.ref m0, .int (iI u), .int (iI q)] [(m0, jO 7 [.int (iI thr), .int (iI ask), .int (iI fnd), .ref m1, .ref m2, .ref m3, .int (iI n), .int (iI wd), .ref m4, .ref m5, .int (iI mm), .ref m6, .ref m7, .int (iI um), .ref m8, .ref m9, .ref m10, .ref m11, .int (iI pd), .int (iI nd), .ref m12, .int (iI pal)]), (m1, jA E 5 (aI fm))] (fun rr N0 => rr = some (.int (iI (rz c))) ∧ N0 = [(m0, jO 7 [.int (iI 0), .int (iI ask), .int (iI (rf c fnd)), .ref m1, .ref m2, .ref m3, .int (iI n), .int (iI wd), .ref m4, .ref m5, .int (iI mm), .ref m6, .ref m7, .int (iI um), .ref m8, .ref m9, .ref m10, .ref m11, .int (iI pd), .int (iI nd), .ref m12, .int (iI pal)]), (m1, jA E 5 (aI (rm c fm)))]) := by
  refine MC.of (by decide) rfl rfl ?_
  refine j_aload_0 1 dX7_node_0 rfl ?_
  refine j_iconst 2 dX7_node_1 ?_
  refine j_put 5 0 pf_X7_46 dX7_node_2 rfl ⟨rfl, rfl, rfl⟩ ?_
  refine j_aload_0 6 dX7_node_5 rfl ?_
  refine j_get 9 0 gf_X7_140 dX7_node_6 rfl rfl ?_
  refine j_if_ne 15 12 dX7_node_9 (by first | with_reducible exact iI_rng _ | with_reducible exact bI_r _ | exact ⟨by omega, by omega⟩) (fun q9 => ?_) (fun q9 => ?_)
  · refine j_iload_2 16 dX7_node_15 rfl ?_
    refine j_iconst 17 dX7_node_16 ?_
    refine j_iconst 18 dX7_node_17 ?_
    refine j_callSi 21 Y_X7_in [] [_, _, _] (c_X7_in E _ _ _ (by first | with_reducible assumption | with_reducible exact iI_rng _ | exact ⟨by omega, by omega⟩) (by first | with_reducible assumption | with_reducible exact iI_rng _ | exact ⟨by omega, by omega⟩) (by first | with_reducible assumption | with_reducible exact iI_rng _ | exact ⟨by omega, by omega⟩)) m_X7_in wml_X7_56 dX7_node_18 rfl rfl rfl rfl rfl rfl rfl ?_
    refine j_bif_ne 26 24 dX7_node_21 (fun q21 => ?_) (fun q21 => ?_)
    · refine j_aload_0 27 dX7_node_26 rfl ?_
      refine j_iload_1 28 dX7_node_27 rfl ?_
      refine j_callVi 31 Y_X7_isNode [0] [_] (c_X7_isNode E _ _ _ _ _ _ _ _ _ _ _ _ _ _ _ _ _ _ _ _ _ _ _ _ hnd (by first | with_reducible assumption | with_reducible exact iI_rng _ | exact ⟨by omega, by omega⟩)) m_X7_isNode wml_X7_149 dX7_node_28 0 rfl rfl rfl rfl rfl rfl rfl rfl rfl rfl ?_
      refine j_bif_ne 40 34 dX7_node_31 (fun q31 => ?_) (fun q31 => ?_)
      · omega
      · obtain rfl : c = 2 := by omega
        refine j_aload_0 35 dX7_node_34 rfl ?_
        refine j_iconst 36 dX7_node_35 ?_
        refine j_callV 39 Y_X7_found [0, 1] [_] (c_X7_found E _ _ _ _ _ _ _ _ _ _ _ _ _ _ _ _ _ _ _ _ _ _ _ _ 2 (by decide)) m_X7_found wml_X7_64 dX7_node_36 0 rfl rfl rfl rfl rfl rfl rfl rfl rfl (fun r N h => by obtain ⟨rfl, rfl⟩ := h; rfl) (fun r N h => ?_)
        obtain ⟨rfl, rfl⟩ := h
        exact j_iret dX7_node_39 rfl rfl ⟨rfl, rfl⟩
    · obtain rfl : c = -1 := by omega
      refine j_iconst 25 dX7_node_24 ?_
      exact j_iret dX7_node_25 rfl rfl ⟨rfl, rfl⟩
  · obtain rfl : c = -2 := by omega
    refine j_bipush 14 dX7_node_12 (by decide +kernel) ?_
    exact j_iret dX7_node_14 rfl rfl ⟨rfl, rfl⟩

set_option maxRecDepth 100000 in
set_option maxHeartbeats 4000000 in
theorem c_X7_node_0 (E : jD) (fnd : Int) (ask : Int) (wd : Int) (n : Int) (mm : Int) (um : Int) (m0 : Nat) (m1 : Nat) (m2 : Nat) (m3 : Nat) (m4 : Nat) (m5 : Nat) (m6 : Nat) (m7 : Nat) (m8 : Nat) (m9 : Nat) (m10 : Nat) (m11 : Nat) (m12 : Nat) (thr : Int) (pd : Int) (pal : Int) (ab : Nat → Int32) (nd : Nat) (p : Nat → Int) (u : Nat) (hnd : nd ≤ 24) (hpk : ∀ k, k < nd → (ab k).toInt = p k) (hp : inT p nd) (hsr : ∀ k, k < nd → srF p nd k < nd) (hu : u < nd) : MC E Y_X7_node [.ref m0, .int (iI (u : Int)), .int (iI 0)] [(m0, jO 7 [.int (iI thr), .int (iI ask), .int (iI fnd), .ref m1, .ref m2, .ref m3, .int (iI n), .int (iI wd), .ref m4, .ref m5, .int (iI mm), .ref m6, .ref m7, .int (iI um), .ref m8, .ref m9, .ref m10, .ref m11, .int (iI pd), .int (iI (nd : Int)), .ref m12, .int (iI pal)]), (m12, jA E 24 ab)] (fun rr N0 => rr = some (.int (iI ((srF p nd u : Nat)))) ∧ N0 = [(m0, jO 7 [.int (iI 0), .int (iI ask), .int (iI fnd), .ref m1, .ref m2, .ref m3, .int (iI n), .int (iI wd), .ref m4, .ref m5, .int (iI mm), .ref m6, .ref m7, .int (iI um), .ref m8, .ref m9, .ref m10, .ref m11, .int (iI pd), .int (iI (nd : Int)), .ref m12, .int (iI pal)]), (m12, jA E 24 ab)]) := by
  refine MC.of (by decide) rfl rfl ?_
  refine j_aload_0 1 dX7_node_0 rfl ?_
  refine j_iconst 2 dX7_node_1 ?_
  refine j_put 5 0 pf_X7_46 dX7_node_2 rfl ⟨rfl, rfl, rfl⟩ ?_
  refine j_aload_0 6 dX7_node_5 rfl ?_
  refine j_get 9 0 gf_X7_140 dX7_node_6 rfl rfl ?_
  refine j_if_ne 15 12 dX7_node_9 (by first | with_reducible exact iI_rng _ | with_reducible exact bI_r _ | exact ⟨by omega, by omega⟩) (fun q9 => ?_) (fun q9 => ?_)
  · refine j_iload_2 16 dX7_node_15 rfl ?_
    refine j_iconst 17 dX7_node_16 ?_
    refine j_iconst 18 dX7_node_17 ?_
    refine j_callSi 21 Y_X7_in [] [_, _, _] (c_X7_in E _ _ _ (by first | with_reducible assumption | with_reducible exact iI_rng _ | exact ⟨by omega, by omega⟩) (by first | with_reducible assumption | with_reducible exact iI_rng _ | exact ⟨by omega, by omega⟩) (by first | with_reducible assumption | with_reducible exact iI_rng _ | exact ⟨by omega, by omega⟩)) m_X7_in wml_X7_56 dX7_node_18 rfl rfl rfl rfl rfl rfl rfl ?_
    refine j_bif_ne 26 24 dX7_node_21 (fun q21 => ?_) (fun q21 => ?_)
    · refine j_aload_0 27 dX7_node_26 rfl ?_
      refine j_iload_1 28 dX7_node_27 rfl ?_
      refine j_callVi 31 Y_X7_isNode [0] [_] (c_X7_isNode E _ _ _ _ _ _ _ _ _ _ _ _ _ _ _ _ _ _ _ _ _ _ _ _ (by omega) (by first | with_reducible assumption | with_reducible exact iI_rng _ | exact ⟨by omega, by omega⟩)) m_X7_isNode wml_X7_149 dX7_node_28 0 rfl rfl rfl rfl rfl rfl rfl rfl rfl rfl ?_
      refine j_bif_ne 40 34 dX7_node_31 (fun q31 => ?_) (fun q31 => ?_)
      · refine j_iload_2 41 dX7_node_40 rfl ?_
        refine j_if_ne 52 44 dX7_node_41 (by first | with_reducible exact iI_rng _ | with_reducible exact bI_r _ | exact ⟨by omega, by omega⟩) (fun q41 => ?_) (fun q41 => ?_)
        · omega
        · refine j_aload_0 45 dX7_node_44 rfl ?_
          refine j_iload_1 46 dX7_node_45 rfl ?_
          refine j_callVi 49 Y_X7_deepness [0, 1] [_] (c_X7_deepness E _ _ _ _ _ _ _ _ _ _ _ _ _ _ _ _ _ _ _ _ _ _ _ _ p _ hnd hpk hp hsr hu) m_X7_deepness wml_X7_143 dX7_node_46 0 rfl rfl rfl rfl rfl rfl rfl rfl rfl rfl ?_
          refine j_goto 70 dX7_node_49 ?_
          exact j_iret dX7_node_70 rfl rfl ⟨rfl, rfl⟩
      · omega
    · omega
  · omega

set_option maxRecDepth 100000 in
set_option maxHeartbeats 4000000 in
theorem c_X7_node_1 (E : jD) (fnd : Int) (ask : Int) (wd : Int) (n : Int) (mm : Int) (um : Int) (m0 : Nat) (m1 : Nat) (m2 : Nat) (m3 : Nat) (m4 : Nat) (m5 : Nat) (m6 : Nat) (m7 : Nat) (m8 : Nat) (m9 : Nat) (m10 : Nat) (m11 : Nat) (m12 : Nat) (thr : Int) (pd : Int) (pal : Int) (ab : Nat → Int32) (nd : Nat) (p : Nat → Int) (u : Nat) (hnd : nd ≤ 24) (hpk : ∀ k, k < nd → (ab k).toInt = p k) (hp : inT p nd) (hsr : ∀ k, k < nd → srF p nd k < nd) (hu : u < nd) : MC E Y_X7_node [.ref m0, .int (iI (u : Int)), .int (iI 1)] [(m0, jO 7 [.int (iI thr), .int (iI ask), .int (iI fnd), .ref m1, .ref m2, .ref m3, .int (iI n), .int (iI wd), .ref m4, .ref m5, .int (iI mm), .ref m6, .ref m7, .int (iI um), .ref m8, .ref m9, .ref m10, .ref m11, .int (iI pd), .int (iI (nd : Int)), .ref m12, .int (iI pal)]), (m12, jA E 24 ab)] (fun rr N0 => rr = some (.int (iI (((beF p nd u nd : Nat) : Int)))) ∧ N0 = [(m0, jO 7 [.int (iI 0), .int (iI ask), .int (iI fnd), .ref m1, .ref m2, .ref m3, .int (iI n), .int (iI wd), .ref m4, .ref m5, .int (iI mm), .ref m6, .ref m7, .int (iI um), .ref m8, .ref m9, .ref m10, .ref m11, .int (iI pd), .int (iI (nd : Int)), .ref m12, .int (iI pal)]), (m12, jA E 24 ab)]) := by
  refine MC.of (by decide) rfl rfl ?_
  refine j_aload_0 1 dX7_node_0 rfl ?_
  refine j_iconst 2 dX7_node_1 ?_
  refine j_put 5 0 pf_X7_46 dX7_node_2 rfl ⟨rfl, rfl, rfl⟩ ?_
  refine j_aload_0 6 dX7_node_5 rfl ?_
  refine j_get 9 0 gf_X7_140 dX7_node_6 rfl rfl ?_
  refine j_if_ne 15 12 dX7_node_9 (by first | with_reducible exact iI_rng _ | with_reducible exact bI_r _ | exact ⟨by omega, by omega⟩) (fun q9 => ?_) (fun q9 => ?_)
  · refine j_iload_2 16 dX7_node_15 rfl ?_
    refine j_iconst 17 dX7_node_16 ?_
    refine j_iconst 18 dX7_node_17 ?_
    refine j_callSi 21 Y_X7_in [] [_, _, _] (c_X7_in E _ _ _ (by first | with_reducible assumption | with_reducible exact iI_rng _ | exact ⟨by omega, by omega⟩) (by first | with_reducible assumption | with_reducible exact iI_rng _ | exact ⟨by omega, by omega⟩) (by first | with_reducible assumption | with_reducible exact iI_rng _ | exact ⟨by omega, by omega⟩)) m_X7_in wml_X7_56 dX7_node_18 rfl rfl rfl rfl rfl rfl rfl ?_
    refine j_bif_ne 26 24 dX7_node_21 (fun q21 => ?_) (fun q21 => ?_)
    · refine j_aload_0 27 dX7_node_26 rfl ?_
      refine j_iload_1 28 dX7_node_27 rfl ?_
      refine j_callVi 31 Y_X7_isNode [0] [_] (c_X7_isNode E _ _ _ _ _ _ _ _ _ _ _ _ _ _ _ _ _ _ _ _ _ _ _ _ (by omega) (by first | with_reducible assumption | with_reducible exact iI_rng _ | exact ⟨by omega, by omega⟩)) m_X7_isNode wml_X7_149 dX7_node_28 0 rfl rfl rfl rfl rfl rfl rfl rfl rfl rfl ?_
      refine j_bif_ne 40 34 dX7_node_31 (fun q31 => ?_) (fun q31 => ?_)
      · refine j_iload_2 41 dX7_node_40 rfl ?_
        refine j_if_ne 52 44 dX7_node_41 (by first | with_reducible exact iI_rng _ | with_reducible exact bI_r _ | exact ⟨by omega, by omega⟩) (fun q41 => ?_) (fun q41 => ?_)
        · refine j_iload_2 53 dX7_node_52 rfl ?_
          refine j_iconst 54 dX7_node_53 ?_
          refine j_icmp_ne 65 57 dX7_node_54 (by first | with_reducible exact iI_rng _ | with_reducible exact bI_r _ | exact ⟨by omega, by omega⟩) (by first | with_reducible exact iI_rng _ | with_reducible exact bI_r _ | exact ⟨by omega, by omega⟩) (fun q54 => ?_) (fun q54 => ?_)
          · omega
          · refine j_aload_0 58 dX7_node_57 rfl ?_
            refine j_iload_1 59 dX7_node_58 rfl ?_
            refine j_callVi 62 Y_X7_below [0, 1] [_] (c_X7_below E _ _ _ _ _ _ _ _ _ _ _ _ _ _ _ _ _ _ _ _ _ _ _ _ p _ hnd hpk hp hsr hu) m_X7_below wml_X7_162 dX7_node_59 0 rfl rfl rfl rfl rfl rfl rfl rfl rfl rfl ?_
            refine j_goto 70 dX7_node_62 ?_
            exact j_iret dX7_node_70 rfl rfl ⟨rfl, rfl⟩
        · omega
      · omega
    · omega
  · omega

set_option maxRecDepth 100000 in
set_option maxHeartbeats 4000000 in
theorem c_X7_node_2 (E : jD) (fnd : Int) (ask : Int) (wd : Int) (n : Int) (mm : Int) (um : Int) (m0 : Nat) (m1 : Nat) (m2 : Nat) (m3 : Nat) (m4 : Nat) (m5 : Nat) (m6 : Nat) (m7 : Nat) (m8 : Nat) (m9 : Nat) (m10 : Nat) (m11 : Nat) (m12 : Nat) (thr : Int) (pd : Int) (pal : Int) (ab : Nat → Int32) (nd : Nat) (p : Nat → Int) (u : Nat) (hnd : nd ≤ 24) (hpk : ∀ k, k < nd → (ab k).toInt = p k) (hp : inT p nd) (hsr : ∀ k, k < nd → srF p nd k < nd) (hu : u < nd) : MC E Y_X7_node [.ref m0, .int (iI (u : Int)), .int (iI 2)] [(m0, jO 7 [.int (iI thr), .int (iI ask), .int (iI fnd), .ref m1, .ref m2, .ref m3, .int (iI n), .int (iI wd), .ref m4, .ref m5, .int (iI mm), .ref m6, .ref m7, .int (iI um), .ref m8, .ref m9, .ref m10, .ref m11, .int (iI pd), .int (iI (nd : Int)), .ref m12, .int (iI pal)]), (m12, jA E 24 ab)] (fun rr N0 => rr = some (.int (iI (fmF p nd nd u (srF p nd u : Nat)))) ∧ N0 = [(m0, jO 7 [.int (iI 0), .int (iI ask), .int (iI fnd), .ref m1, .ref m2, .ref m3, .int (iI n), .int (iI wd), .ref m4, .ref m5, .int (iI mm), .ref m6, .ref m7, .int (iI um), .ref m8, .ref m9, .ref m10, .ref m11, .int (iI pd), .int (iI (nd : Int)), .ref m12, .int (iI pal)]), (m12, jA E 24 ab)]) := by
  refine MC.of (by decide) rfl rfl ?_
  refine j_aload_0 1 dX7_node_0 rfl ?_
  refine j_iconst 2 dX7_node_1 ?_
  refine j_put 5 0 pf_X7_46 dX7_node_2 rfl ⟨rfl, rfl, rfl⟩ ?_
  refine j_aload_0 6 dX7_node_5 rfl ?_
  refine j_get 9 0 gf_X7_140 dX7_node_6 rfl rfl ?_
  refine j_if_ne 15 12 dX7_node_9 (by first | with_reducible exact iI_rng _ | with_reducible exact bI_r _ | exact ⟨by omega, by omega⟩) (fun q9 => ?_) (fun q9 => ?_)
  · refine j_iload_2 16 dX7_node_15 rfl ?_
    refine j_iconst 17 dX7_node_16 ?_
    refine j_iconst 18 dX7_node_17 ?_
    refine j_callSi 21 Y_X7_in [] [_, _, _] (c_X7_in E _ _ _ (by first | with_reducible assumption | with_reducible exact iI_rng _ | exact ⟨by omega, by omega⟩) (by first | with_reducible assumption | with_reducible exact iI_rng _ | exact ⟨by omega, by omega⟩) (by first | with_reducible assumption | with_reducible exact iI_rng _ | exact ⟨by omega, by omega⟩)) m_X7_in wml_X7_56 dX7_node_18 rfl rfl rfl rfl rfl rfl rfl ?_
    refine j_bif_ne 26 24 dX7_node_21 (fun q21 => ?_) (fun q21 => ?_)
    · refine j_aload_0 27 dX7_node_26 rfl ?_
      refine j_iload_1 28 dX7_node_27 rfl ?_
      refine j_callVi 31 Y_X7_isNode [0] [_] (c_X7_isNode E _ _ _ _ _ _ _ _ _ _ _ _ _ _ _ _ _ _ _ _ _ _ _ _ (by omega) (by first | with_reducible assumption | with_reducible exact iI_rng _ | exact ⟨by omega, by omega⟩)) m_X7_isNode wml_X7_149 dX7_node_28 0 rfl rfl rfl rfl rfl rfl rfl rfl rfl rfl ?_
      refine j_bif_ne 40 34 dX7_node_31 (fun q31 => ?_) (fun q31 => ?_)
      · refine j_iload_2 41 dX7_node_40 rfl ?_
        refine j_if_ne 52 44 dX7_node_41 (by first | with_reducible exact iI_rng _ | with_reducible exact bI_r _ | exact ⟨by omega, by omega⟩) (fun q41 => ?_) (fun q41 => ?_)
        · refine j_iload_2 53 dX7_node_52 rfl ?_
          refine j_iconst 54 dX7_node_53 ?_
          refine j_icmp_ne 65 57 dX7_node_54 (by first | with_reducible exact iI_rng _ | with_reducible exact bI_r _ | exact ⟨by omega, by omega⟩) (by first | with_reducible exact iI_rng _ | with_reducible exact bI_r _ | exact ⟨by omega, by omega⟩) (fun q54 => ?_) (fun q54 => ?_)
          · refine j_aload_0 66 dX7_node_65 rfl ?_
            refine j_iload_1 67 dX7_node_66 rfl ?_
            refine j_callVi 70 Y_X7_firstMet [0, 1] [_] (c_X7_firstMet E _ _ _ _ _ _ _ _ _ _ _ _ _ _ _ _ _ _ _ _ _ _ _ _ p _ hnd hpk hp hsr hu) m_X7_firstMet wml_X7_165 dX7_node_67 0 rfl rfl rfl rfl rfl rfl rfl rfl rfl rfl ?_
            exact j_iret dX7_node_70 rfl rfl ⟨rfl, rfl⟩
          · omega
        · omega
      · omega
    · omega
  · omega

set_option maxRecDepth 100000 in
set_option maxHeartbeats 4000000 in
theorem c_X7_asked (E : jD) (fnd : Int) (ask : Int) (wd : Int) (n : Int) (mm : Int) (um : Int) (nd : Int) (m0 : Nat) (m1 : Nat) (m2 : Nat) (m3 : Nat) (m4 : Nat) (m5 : Nat) (m6 : Nat) (m7 : Nat) (m8 : Nat) (m9 : Nat) (m10 : Nat) (m11 : Nat) (m12 : Nat) (thr : Int) (pd : Int) (pal : Int)   : MC E Y_X7_asked [.ref m0] [(m0, jO 7 [.int (iI thr), .int (iI ask), .int (iI fnd), .ref m1, .ref m2, .ref m3, .int (iI n), .int (iI wd), .ref m4, .ref m5, .int (iI mm), .ref m6, .ref m7, .int (iI um), .ref m8, .ref m9, .ref m10, .ref m11, .int (iI pd), .int (iI nd), .ref m12, .int (iI pal)])] (fun rr N0 => rr = some (.int (iI (ask))) ∧ N0 = [(m0, jO 7 [.int (iI 0), .int (iI ask), .int (iI fnd), .ref m1, .ref m2, .ref m3, .int (iI n), .int (iI wd), .ref m4, .ref m5, .int (iI mm), .ref m6, .ref m7, .int (iI um), .ref m8, .ref m9, .ref m10, .ref m11, .int (iI pd), .int (iI nd), .ref m12, .int (iI pal)])]) := by
  refine MC.of (by decide) rfl rfl ?_
  refine j_aload_0 1 dX7_asked_0 rfl ?_
  refine j_iconst 2 dX7_asked_1 ?_
  refine j_put 5 0 pf_X7_46 dX7_asked_2 rfl ⟨rfl, rfl, rfl⟩ ?_
  refine j_aload_0 6 dX7_asked_5 rfl ?_
  refine j_get 9 0 gf_X7_53 dX7_asked_6 rfl rfl ?_
  exact j_iret dX7_asked_9 rfl rfl ⟨rfl, rfl⟩

set_option maxRecDepth 100000 in
set_option maxHeartbeats 4000000 in
theorem c_X7_finding (E : jD) (fnd : Int) (ask : Int) (wd : Int) (n : Int) (mm : Int) (um : Int) (nd : Int) (m0 : Nat) (m1 : Nat) (m2 : Nat) (m3 : Nat) (m4 : Nat) (m5 : Nat) (m6 : Nat) (m7 : Nat) (m8 : Nat) (m9 : Nat) (m10 : Nat) (m11 : Nat) (m12 : Nat) (thr : Int) (pd : Int) (pal : Int)   : MC E Y_X7_finding [.ref m0] [(m0, jO 7 [.int (iI thr), .int (iI ask), .int (iI fnd), .ref m1, .ref m2, .ref m3, .int (iI n), .int (iI wd), .ref m4, .ref m5, .int (iI mm), .ref m6, .ref m7, .int (iI um), .ref m8, .ref m9, .ref m10, .ref m11, .int (iI pd), .int (iI nd), .ref m12, .int (iI pal)])] (fun rr N0 => rr = some (.int (iI (fnd))) ∧ N0 = [(m0, jO 7 [.int (iI 0), .int (iI ask), .int (iI fnd), .ref m1, .ref m2, .ref m3, .int (iI n), .int (iI wd), .ref m4, .ref m5, .int (iI mm), .ref m6, .ref m7, .int (iI um), .ref m8, .ref m9, .ref m10, .ref m11, .int (iI pd), .int (iI nd), .ref m12, .int (iI pal)])]) := by
  refine MC.of (by decide) rfl rfl ?_
  refine j_aload_0 1 dX7_finding_0 rfl ?_
  refine j_iconst 2 dX7_finding_1 ?_
  refine j_put 5 0 pf_X7_46 dX7_finding_2 rfl ⟨rfl, rfl, rfl⟩ ?_
  refine j_aload_0 6 dX7_finding_5 rfl ?_
  refine j_get 9 0 gf_X7_50 dX7_finding_6 rfl rfl ?_
  exact j_iret dX7_finding_9 rfl rfl ⟨rfl, rfl⟩

set_option maxRecDepth 100000 in
set_option maxHeartbeats 4000000 in
theorem c_X7_findings_bad (E : jD) (fnd : Int) (ask : Int) (wd : Int) (n : Int) (mm : Int) (um : Int) (nd : Int) (m0 : Nat) (m1 : Nat) (m2 : Nat) (m3 : Nat) (m4 : Nat) (m5 : Nat) (m6 : Nat) (m7 : Nat) (m8 : Nat) (m9 : Nat) (m10 : Nat) (m11 : Nat) (m12 : Nat) (thr : Int) (pd : Int) (pal : Int) (q : Int) (hq0 : jr q) (hb : q < 1 ∨ 4 < q) : MC E Y_X7_findings [.ref m0, .int (iI q)] [(m0, jO 7 [.int (iI thr), .int (iI ask), .int (iI fnd), .ref m1, .ref m2, .ref m3, .int (iI n), .int (iI wd), .ref m4, .ref m5, .int (iI mm), .ref m6, .ref m7, .int (iI um), .ref m8, .ref m9, .ref m10, .ref m11, .int (iI pd), .int (iI nd), .ref m12, .int (iI pal)])] (fun rr N0 => rr = some (.int (iI (-1))) ∧ N0 = [(m0, jO 7 [.int (iI 0), .int (iI ask), .int (iI fnd), .ref m1, .ref m2, .ref m3, .int (iI n), .int (iI wd), .ref m4, .ref m5, .int (iI mm), .ref m6, .ref m7, .int (iI um), .ref m8, .ref m9, .ref m10, .ref m11, .int (iI pd), .int (iI nd), .ref m12, .int (iI pal)])]) := by
  refine MC.of (by decide) rfl rfl ?_
  refine j_aload_0 1 dX7_findings_0 rfl ?_
  refine j_iconst 2 dX7_findings_1 ?_
  refine j_put 5 0 pf_X7_46 dX7_findings_2 rfl ⟨rfl, rfl, rfl⟩ ?_
  refine j_iload_1 6 dX7_findings_5 rfl ?_
  refine j_iconst 7 dX7_findings_6 ?_
  refine j_iconst 8 dX7_findings_7 ?_
  refine j_callSi 11 Y_X7_in [] [_, _, _] (c_X7_in E _ _ _ (by first | with_reducible assumption | with_reducible exact iI_rng _ | exact ⟨by omega, by omega⟩) (by first | with_reducible assumption | with_reducible exact iI_rng _ | exact ⟨by omega, by omega⟩) (by first | with_reducible assumption | with_reducible exact iI_rng _ | exact ⟨by omega, by omega⟩)) m_X7_in wml_X7_56 dX7_findings_8 rfl rfl rfl rfl rfl rfl rfl ?_
  refine j_bif_eq 23 14 dX7_findings_11 (fun q11 => ?_) (fun q11 => ?_)
  · refine j_iconst 24 dX7_findings_23 ?_
    exact j_iret dX7_findings_24 rfl rfl ⟨rfl, rfl⟩
  · omega

set_option maxRecDepth 100000 in
set_option maxHeartbeats 4000000 in
theorem c_X7_findings_ok (E : jD) (fnd : Int) (ask : Int) (wd : Int) (n : Int) (mm : Int) (um : Int) (nd : Int) (fm : Nat → Int) (m0 : Nat) (m1 : Nat) (m2 : Nat) (m3 : Nat) (m4 : Nat) (m5 : Nat) (m6 : Nat) (m7 : Nat) (m8 : Nat) (m9 : Nat) (m10 : Nat) (m11 : Nat) (m12 : Nat) (thr : Int) (pd : Int) (pal : Int) (q : Nat) (hb : 1 ≤ q ∧ q ≤ 4) : MC E Y_X7_findings [.ref m0, .int (iI (q : Int))] [(m0, jO 7 [.int (iI thr), .int (iI ask), .int (iI fnd), .ref m1, .ref m2, .ref m3, .int (iI n), .int (iI wd), .ref m4, .ref m5, .int (iI mm), .ref m6, .ref m7, .int (iI um), .ref m8, .ref m9, .ref m10, .ref m11, .int (iI pd), .int (iI nd), .ref m12, .int (iI pal)]), (m1, jA E 5 (aI fm))] (fun rr N0 => rr = some (.int (iI (fm q))) ∧ N0 = [(m0, jO 7 [.int (iI 0), .int (iI ask), .int (iI fnd), .ref m1, .ref m2, .ref m3, .int (iI n), .int (iI wd), .ref m4, .ref m5, .int (iI mm), .ref m6, .ref m7, .int (iI um), .ref m8, .ref m9, .ref m10, .ref m11, .int (iI pd), .int (iI nd), .ref m12, .int (iI pal)]), (m1, jA E 5 (aI fm))]) := by
  refine MC.of (by decide) rfl rfl ?_
  refine j_aload_0 1 dX7_findings_0 rfl ?_
  refine j_iconst 2 dX7_findings_1 ?_
  refine j_put 5 0 pf_X7_46 dX7_findings_2 rfl ⟨rfl, rfl, rfl⟩ ?_
  refine j_iload_1 6 dX7_findings_5 rfl ?_
  refine j_iconst 7 dX7_findings_6 ?_
  refine j_iconst 8 dX7_findings_7 ?_
  refine j_callSi 11 Y_X7_in [] [_, _, _] (c_X7_in E _ _ _ (by first | with_reducible assumption | with_reducible exact iI_rng _ | exact ⟨by omega, by omega⟩) (by first | with_reducible assumption | with_reducible exact iI_rng _ | exact ⟨by omega, by omega⟩) (by first | with_reducible assumption | with_reducible exact iI_rng _ | exact ⟨by omega, by omega⟩)) m_X7_in wml_X7_56 dX7_findings_8 rfl rfl rfl rfl rfl rfl rfl ?_
  refine j_bif_eq 23 14 dX7_findings_11 (fun q11 => ?_) (fun q11 => ?_)
  · omega
  · refine j_aload_0 15 dX7_findings_14 rfl ?_
    refine j_get 18 0 gf_X7_7 dX7_findings_15 rfl rfl ?_
    refine j_iload_1 19 dX7_findings_18 rfl ?_
    refine j_ialdw 20 1 _ (fm q) dX7_findings_19 rfl rfl rfl (by omega) rfl ?_
    refine j_goto 24 dX7_findings_20 ?_
    exact j_iret dX7_findings_24 rfl rfl ⟨rfl, rfl⟩

set_option maxRecDepth 100000 in
set_option maxHeartbeats 4000000 in
theorem c_X7_entry_state (E : jD) (fnd : Int) (ask : Int) (wd : Int) (n : Int) (mm : Int) (um : Int) (nd : Int) (m0 : Nat) (m1 : Nat) (m2 : Nat) (m3 : Nat) (m4 : Nat) (m5 : Nat) (m6 : Nat) (m7 : Nat) (m8 : Nat) (m9 : Nat) (m10 : Nat) (m11 : Nat) (m12 : Nat) (thr : Int) (pd : Int) (pal : Int) (s i j c : Int) (hn : n = 0) (hc : c = -2) : MC E Y_X7_entry [.ref m0, .int (iI s), .int (iI i), .int (iI j)] [(m0, jO 7 [.int (iI thr), .int (iI ask), .int (iI fnd), .ref m1, .ref m2, .ref m3, .int (iI n), .int (iI wd), .ref m4, .ref m5, .int (iI mm), .ref m6, .ref m7, .int (iI um), .ref m8, .ref m9, .ref m10, .ref m11, .int (iI pd), .int (iI nd), .ref m12, .int (iI pal)])] (fun rr N0 => rr = some (.int (iI (rz c))) ∧ N0 = [(m0, jO 7 [.int (iI 0), .int (iI ask), .int (iI fnd), .ref m1, .ref m2, .ref m3, .int (iI n), .int (iI wd), .ref m4, .ref m5, .int (iI mm), .ref m6, .ref m7, .int (iI um), .ref m8, .ref m9, .ref m10, .ref m11, .int (iI pd), .int (iI nd), .ref m12, .int (iI pal)])]) := by
  refine MC.of (by decide) rfl rfl ?_
  refine j_aload_0 1 dX7_entry_0 rfl ?_
  refine j_iconst 2 dX7_entry_1 ?_
  refine j_put 5 0 pf_X7_46 dX7_entry_2 rfl ⟨rfl, rfl, rfl⟩ ?_
  refine j_aload_0 6 dX7_entry_5 rfl ?_
  refine j_get 9 0 gf_X7_81 dX7_entry_6 rfl rfl ?_
  refine j_if_ne 15 12 dX7_entry_9 (by first | with_reducible exact iI_rng _ | with_reducible exact bI_r _ | exact ⟨by omega, by omega⟩) (fun q9 => ?_) (fun q9 => ?_)
  · omega
  · refine j_bipush 14 dX7_entry_12 (by decide +kernel) ?_
    obtain rfl : c = -2 := by omega
    exact j_iret dX7_entry_14 rfl rfl ⟨rfl, rfl⟩

set_option maxRecDepth 100000 in
set_option maxHeartbeats 4000000 in
theorem c_X7_entry_bad (E : jD) (fnd : Int) (ask : Int) (wd : Int) (n : Int) (mm : Int) (um : Int) (nd : Int) (m0 : Nat) (m1 : Nat) (m2 : Nat) (m3 : Nat) (m4 : Nat) (m5 : Nat) (m6 : Nat) (m7 : Nat) (m8 : Nat) (m9 : Nat) (m10 : Nat) (m11 : Nat) (m12 : Nat) (thr : Int) (pd : Int) (pal : Int) (md0 : Nat → Int32) (s i j c : Int) (hn : 1 ≤ n ∧ n ≤ 48) (hs : jr s) (hb : ¬ (0 ≤ s ∧ s ≤ 8191 ∧ mB md0 s.toNat = true)) (hc : c = -1) : MC E Y_X7_entry [.ref m0, .int (iI s), .int (iI i), .int (iI j)] [(m0, jO 7 [.int (iI thr), .int (iI ask), .int (iI fnd), .ref m1, .ref m2, .ref m3, .int (iI n), .int (iI wd), .ref m4, .ref m5, .int (iI mm), .ref m6, .ref m7, .int (iI um), .ref m8, .ref m9, .ref m10, .ref m11, .int (iI pd), .int (iI nd), .ref m12, .int (iI pal)]), (m5, jA E 256 md0)] (fun rr N0 => rr = some (.int (iI (rz c))) ∧ N0 = [(m0, jO 7 [.int (iI 0), .int (iI ask), .int (iI fnd), .ref m1, .ref m2, .ref m3, .int (iI n), .int (iI wd), .ref m4, .ref m5, .int (iI mm), .ref m6, .ref m7, .int (iI um), .ref m8, .ref m9, .ref m10, .ref m11, .int (iI pd), .int (iI nd), .ref m12, .int (iI pal)]), (m5, jA E 256 md0)]) := by
  refine MC.of (by decide) rfl rfl ?_
  refine j_aload_0 1 dX7_entry_0 rfl ?_
  refine j_iconst 2 dX7_entry_1 ?_
  refine j_put 5 0 pf_X7_46 dX7_entry_2 rfl ⟨rfl, rfl, rfl⟩ ?_
  refine j_aload_0 6 dX7_entry_5 rfl ?_
  refine j_get 9 0 gf_X7_81 dX7_entry_6 rfl rfl ?_
  refine j_if_ne 15 12 dX7_entry_9 (by first | with_reducible exact iI_rng _ | with_reducible exact bI_r _ | exact ⟨by omega, by omega⟩) (fun q9 => ?_) (fun q9 => ?_)
  · refine j_aload_0 16 dX7_entry_15 rfl ?_
    refine j_iload_1 17 dX7_entry_16 rfl ?_
    refine j_callVi 20 Y_X7_isMade [0, 1] [_] (c_X7_isMade E _ _ _ _ _ _ _ _ _ _ _ _ _ _ _ _ _ _ _ _ _ _ _ _ _ (by first | with_reducible assumption | with_reducible exact iI_rng _ | exact ⟨by omega, by omega⟩)) m_X7_isMade wml_X7_90 dX7_entry_17 0 rfl rfl rfl rfl rfl rfl rfl rfl rfl rfl ?_
    refine j_bif_ne 25 23 dX7_entry_20 (fun q20 => ?_) (fun q20 => ?_)
    · exact absurd q20 hb
    · refine j_iconst 24 dX7_entry_23 ?_
      obtain rfl : c = -1 := by omega
      exact j_iret dX7_entry_24 rfl rfl ⟨rfl, rfl⟩
  · omega

/-- the reference's table: over the digits below the first -/
def enM (s : Nat) (i j : Int) : Nat → List Int → Int → Int → Int × Int
  | 0, _, p, z => (p, z)
  | d + 1, P, p, z => if s / 2 ^ d % 2 = 0 then enM s i j d P.tail p z else enM s i j d (p :: P) (p + 1) (if p = j then scT i z (p :: P) else z)
def enOK (s : Nat) : Nat → Nat → Bool
  | 0, _ => true
  | d + 1, k => if s / 2 ^ d % 2 = 0 then decide (1 ≤ k) && enOK s d (k - 1) else enOK s d (k + 1)
theorem ldF_no {s : Nat} : ∀ {d k : Nat}, k < d → ¬ s / 2 ^ (k + 1) = 0 → k + 1 ≤ ldF s d
  | 0, _, h, _ => absurd h (Nat.not_lt_zero _)
  | d + 1, k, h, h2 => by
    unfold ldF
    by_cases hd : k = d
    · subst hd; rw [if_neg h2]; exact Nat.le_refl _
    · have := ldF_no (d := d) (by omega : k < d) h2
      split <;> omega
theorem ldF_yes {s : Nat} : ∀ {d m : Nat}, ldF s d = m + 1 → ¬ s / 2 ^ (m + 1) = 0
  | 0, _, h => by simp [ldF] at h
  | d + 1, m, h => by
    unfold ldF at h
    by_cases hd : s / 2 ^ (d + 1) = 0
    · rw [if_pos hd] at h; exact ldF_yes h
    · rw [if_neg hd] at h
      have : m = d := by omega
      subst this; exact hd
theorem div_mono {s a b : Nat} (h : a ≤ b) : s / 2 ^ b ≤ s / 2 ^ a := Nat.div_le_div_left (Nat.pow_le_pow_right (by decide) h) (Nat.pow_pos (by decide))
theorem ldF_at {s k : Nat} (hs : s < 4096) (hk : k ≤ 11) : s / 2 ^ (k + 1) = 0 ↔ ldF s 11 ≤ k := by
  constructor
  · intro h
    apply Nat.le_of_not_lt
    intro h2
    obtain ⟨m, hm⟩ : ∃ m, ldF s 11 = m + 1 := ⟨ldF s 11 - 1, by omega⟩
    have h3 := ldF_yes hm
    have h4 := div_mono (s := s) (show k + 1 ≤ m + 1 by omega)
    rw [h] at h4
    exact h3 (Nat.le_zero.mp h4)
  · intro h
    by_cases h2 : s / 2 ^ (k + 1) = 0
    · exact h2
    · by_cases hk11 : k = 11
      · subst hk11; exact Nat.div_eq_of_lt hs
      · have := ldF_no (s := s) (show k < 11 by omega) h2
        omega

set_option maxRecDepth 100000 in
set_option maxHeartbeats 4000000 in
theorem lp7_entry_in (E : jD) (fnd : Int) (ask : Int) (wd : Int) (n : Int) (mm : Int) (um : Int) (nd : Int) (fm : Nat → Int) (m0 : Nat) (m1 : Nat) (m2 : Nat) (m3 : Nat) (m4 : Nat) (m5 : Nat) (m6 : Nat) (m7 : Nat) (m8 : Nat) (m9 : Nat) (m10 : Nat) (m11 : Nat) (m12 : Nat) (pal : Int) (md0 : Nat → Int32) (s : Nat) (i j : Int) (hs : s < 4096) (hi : jr i) (hj : jr j) (top : Nat) (pi : Nat → Int32) (pd : Int) (Z : jZ) (p m : Int) (hpj : p = j) (hp9 : 0 ≤ p ∧ p ≤ 12) : ∀ (P : List Int) (z : Int), pileIs pi P → P.length ≤ 12 →
    (∀ k8, J E Y_X7_entry Z 0 0 159 [(0, .ref m0), (1, .int (iI (s : Int))), (2, .int (iI i)), (3, .int (iI j)), (4, .int (iI (top : Int))), (5, .int (iI (p))), (6, .int (iI (scT i z P))), (7, .int (iI (m))), (8, .int (iI (k8)))] [] [(m0, jO 7 [.int (iI 0), .int (iI ask), .int (iI fnd), .ref m1, .ref m2, .ref m3, .int (iI n), .int (iI wd), .ref m4, .ref m5, .int (iI mm), .ref m6, .ref m7, .int (iI um), .ref m8, .ref m9, .ref m10, .ref m11, .int (iI pd), .int (iI nd), .ref m12, .int (iI pal)]), (m1, jA E 5 (aI fm)), (m5, jA E 256 md0), (m11, jA E 48 pi)]) → J E Y_X7_entry Z 0 0 117 [(0, .ref m0), (1, .int (iI (s : Int))), (2, .int (iI i)), (3, .int (iI j)), (4, .int (iI (top : Int))), (5, .int (iI (p))), (6, .int (iI (z))), (7, .int (iI (m))), (8, .int (iI ((P.length : Int) - 1)))] [] [(m0, jO 7 [.int (iI 0), .int (iI ask), .int (iI fnd), .ref m1, .ref m2, .ref m3, .int (iI n), .int (iI wd), .ref m4, .ref m5, .int (iI mm), .ref m6, .ref m7, .int (iI um), .ref m8, .ref m9, .ref m10, .ref m11, .int (iI pd), .int (iI nd), .ref m12, .int (iI pal)]), (m1, jA E 5 (aI fm)), (m5, jA E 256 md0), (m11, jA E 48 pi)] := by
  intro P
  induction P with
  | nil =>
    intro z hp hl kk
    refine j_iload 119 dX7_entry_117 rfl ?_
    refine j_if_lt 159 122 dX7_entry_119 (by show jr (((0 : Nat) : Int) - 1); exact ⟨by omega, by omega⟩) (fun q119 => ?_) (fun q119 => ?_)
    · exact kk _
    · exact absurd (show ((List.length ([] : List Int) : Nat) : Int) - 1 < 0 by simp) q119
  | cons t P ih =>
    intro z hp hl kk
    rw [List.length_cons] at hl
    refine j_iload 119 dX7_entry_117 rfl ?_
    refine j_if_lt 159 122 dX7_entry_119 (by rw [List.length_cons]; exact ⟨by omega, by omega⟩) (fun q119 => ?_) (fun q119 => ?_)
    · rw [List.length_cons] at q119; omega
    · refine j_iload 124 dX7_entry_122 rfl ?_
      refine j_iload_3 125 dX7_entry_124 rfl ?_
      refine j_icmp_ne 159 128 dX7_entry_125 (by first | with_reducible exact iI_rng _ | with_reducible exact bI_r _ | exact ⟨by omega, by omega⟩) (by first | with_reducible exact iI_rng _ | with_reducible exact bI_r _ | exact ⟨by omega, by omega⟩) (fun q125 => ?_) (fun q125 => ?_)
      · omega
      · refine j_aload_0 129 dX7_entry_128 rfl ?_
        refine j_get 132 0 gf_X7_40 dX7_entry_129 rfl rfl ?_
        refine j_iload 134 dX7_entry_132 rfl ?_
        refine j_ialdw 135 3 (P.length) (t) dX7_entry_134 rfl rfl (by rw [List.length_cons]; omega) (by omega) (by rw [← hp.1, iI_x]) ?_
        refine j_iload_2 136 dX7_entry_135 rfl ?_
        refine j_icmp_lt 149 139 dX7_entry_136 (by rw [← hp.1]; exact iI_rng _) (by first | with_reducible exact iI_rng _ | with_reducible exact bI_r _ | exact ⟨by omega, by omega⟩) (fun q136 => ?_) (fun q136 => ?_)
        · have e : scT i z (t :: P) = scT i z P := by
            show scT i (if i ≤ t then t else z) P = _
            rw [if_neg (by omega)]
          refine j_iload 151 dX7_entry_149 rfl ?_
          refine j_istore 153 (lv' := [(0, _), (1, _), (2, _), (3, _), (4, _), (5, _), (6, _), (7, _), (8, _)]) dX7_entry_151 rfl ⟨rfl, rfl⟩ ?_
          refine j_iinc 156 (lv' := [(0, _), (1, _), (2, _), (3, _), (4, _), (5, _), (6, _), (7, _), (8, _)]) dX7_entry_153 rfl rfl ⟨rfl, rfl⟩ ?_
          refine j_goto 117 dX7_entry_156 ?_
          refine j_eqL (lv' := [(0, .ref m0), (1, .int (iI (s : Int))), (2, .int (iI i)), (3, .int (iI j)), (4, .int (iI (top : Int))), (5, .int (iI (p))), (6, .int (iI (_))), (7, .int (iI (m))), (8, .int (iI ((P.length : Int) - 1)))]) (by rw [List.length_cons, show ((P.length + 1 : Nat) : Int) - 1 + -1 = (P.length : Int) - 1 by omega]) ?_
          exact ih _ hp.2 (by omega) (by rw [← e]; exact kk)
        · have e : scT i z (t :: P) = scT i t P := by
            show scT i (if i ≤ t then t else z) P = _
            rw [if_pos (by omega)]
          refine j_aload_0 140 dX7_entry_139 rfl ?_
          refine j_get 143 0 gf_X7_40 dX7_entry_140 rfl rfl ?_
          refine j_iload 145 dX7_entry_143 rfl ?_
          refine j_ialdw 146 3 (P.length) (t) dX7_entry_145 rfl rfl (by rw [List.length_cons]; omega) (by omega) (by rw [← hp.1, iI_x]) ?_
          refine j_goto 151 dX7_entry_146 ?_
          refine j_istore 153 (lv' := [(0, _), (1, _), (2, _), (3, _), (4, _), (5, _), (6, _), (7, _), (8, _)]) dX7_entry_151 rfl ⟨rfl, rfl⟩ ?_
          refine j_iinc 156 (lv' := [(0, _), (1, _), (2, _), (3, _), (4, _), (5, _), (6, _), (7, _), (8, _)]) dX7_entry_153 rfl rfl ⟨rfl, rfl⟩ ?_
          refine j_goto 117 dX7_entry_156 ?_
          refine j_eqL (lv' := [(0, .ref m0), (1, .int (iI (s : Int))), (2, .int (iI i)), (3, .int (iI j)), (4, .int (iI (top : Int))), (5, .int (iI (p))), (6, .int (iI (_))), (7, .int (iI (m))), (8, .int (iI ((P.length : Int) - 1)))]) (by rw [List.length_cons, show ((P.length + 1 : Nat) : Int) - 1 + -1 = (P.length : Int) - 1 by omega]) ?_
          exact ih _ hp.2 (by omega) (by rw [← e]; exact kk)

set_option maxRecDepth 100000 in
set_option maxHeartbeats 4000000 in
theorem lp7_entry (E : jD) (fnd : Int) (ask : Int) (wd : Int) (n : Int) (mm : Int) (um : Int) (nd : Int) (fm : Nat → Int) (m0 : Nat) (m1 : Nat) (m2 : Nat) (m3 : Nat) (m4 : Nat) (m5 : Nat) (m6 : Nat) (m7 : Nat) (m8 : Nat) (m9 : Nat) (m10 : Nat) (m11 : Nat) (m12 : Nat) (pal : Int) (md0 : Nat → Int32) (s : Nat) (i j : Int) (hs : s < 4096) (hi : jr i) (hj : jr j) (top : Nat) (Z : jZ) : ∀ (d : Nat) (d0 : Nat) (P : List Int) (p z : Int) (pi : Nat → Int32) (z8 : List (Nat × Value)), d0 < d → (P.length + d0 ≤ 11) → (0 ≤ p ∧ p + d0 ≤ 11) → (enOK s d0 P.length = true) → (pileIs pi P) → (z8 = [] ∨ ∃ x, z8 = [(8, x)]) → (∀ z8 pd2 pi2, J E Y_X7_entry Z 0 0 168 ([(0, .ref m0), (1, .int (iI (s : Int))), (2, .int (iI i)), (3, .int (iI j)), (4, .int (iI (top : Int))), (5, .int (iI ((enM s i j d0 P p z).1))), (6, .int (iI ((enM s i j d0 P p z).2))), (7, .int (iI (-1)))] ++ z8) [] [(m0, jO 7 [.int (iI 0), .int (iI ask), .int (iI fnd), .ref m1, .ref m2, .ref m3, .int (iI n), .int (iI wd), .ref m4, .ref m5, .int (iI mm), .ref m6, .ref m7, .int (iI um), .ref m8, .ref m9, .ref m10, .ref m11, .int (iI pd2), .int (iI nd), .ref m12, .int (iI pal)]), (m1, jA E 5 (aI fm)), (m5, jA E 256 md0), (m11, jA E 48 pi2)]) → J E Y_X7_entry Z 0 0 61 ([(0, .ref m0), (1, .int (iI (s : Int))), (2, .int (iI i)), (3, .int (iI j)), (4, .int (iI (top : Int))), (5, .int (iI (p))), (6, .int (iI (z))), (7, .int (iI ((d0 : Int) - 1)))] ++ z8) [] [(m0, jO 7 [.int (iI 0), .int (iI ask), .int (iI fnd), .ref m1, .ref m2, .ref m3, .int (iI n), .int (iI wd), .ref m4, .ref m5, .int (iI mm), .ref m6, .ref m7, .int (iI um), .ref m8, .ref m9, .ref m10, .ref m11, .int (iI ((P.length : Nat) : Int)), .int (iI nd), .ref m12, .int (iI pal)]), (m1, jA E 5 (aI fm)), (m5, jA E 256 md0), (m11, jA E 48 pi)] := by
  intro d
  induction d with
  | zero => intros; omega
  | succ d ih =>
    intro d0 P p z pi z8 hd hd0 hp0 hok hpi hz8 kk
    refine j_take 8 ?_
    refine j_eqL (lv' := [(0, .ref m0), (1, .int (iI (s : Int))), (2, .int (iI i)), (3, .int (iI j)), (4, .int (iI (top : Int))), (5, .int (iI (p))), (6, .int (iI (z))), (7, .int (iI ((d0 : Int) - 1)))]) (by rcases hz8 with rfl | ⟨x, rfl⟩ <;> rfl) ?_
    refine j_iload 63 dX7_entry_61 rfl ?_
    refine j_if_lt 168 66 dX7_entry_63 (by first | with_reducible exact iI_rng _ | with_reducible exact bI_r _ | exact ⟨by omega, by omega⟩) (fun q63 => ?_) (fun q63 => ?_)
    · obtain rfl : d0 = 0 := by omega
      refine j_eqL (lv' := ([(0, .ref m0), (1, .int (iI (s : Int))), (2, .int (iI i)), (3, .int (iI j)), (4, .int (iI (top : Int))), (5, .int (iI (p))), (6, .int (iI (z))), (7, .int (iI (-1)))] ++ [])) rfl ?_
      exact kk _ _ _
    · obtain ⟨d0, rfl⟩ : ∃ q, d0 = q + 1 := ⟨d0 - 1, by omega⟩
      have hle := Nat.div_le_self s (2 ^ d0)
      refine j_iload_1 67 dX7_entry_66 rfl ?_
      refine j_iload 69 dX7_entry_67 rfl ?_
      refine j_top (d0 : Int) (congrArg iI (by omega)) ?_
      refine j_ishr 70 dX7_entry_69 ?_
      refine j_top _ (iI_shrk (by omega) (by omega)) ?_
      refine j_iconst 71 dX7_entry_70 ?_
      refine j_iand 72 dX7_entry_71 ?_
      refine j_top _ (iI_and 1 1 (by omega) (by decide +kernel)) ?_
      have hm2 := Nat.mod_lt (s / 2 ^ d0) (show 0 < 2 ^ 1 by decide)
      refine j_if_ne 88 75 dX7_entry_72 (jr_nat (by omega)) (fun q72 => ?_) (fun q72 => ?_)
      · have hbit : ¬ s / 2 ^ d0 % 2 = 0 := by omega
        rw [show enOK s (d0 + 1) P.length = enOK s d0 (P.length + 1) from if_neg hbit] at hok
        have hun : ∀ P p z, enM s i j (d0 + 1) P p z = enM s i j d0 (p :: P) (p + 1) (if p = j then scT i z (p :: P) else z) := fun P p z => if_neg hbit
        rw [hun] at kk
        refine j_aload_0 89 dX7_entry_88 rfl ?_
        refine j_get 92 0 gf_X7_40 dX7_entry_89 rfl rfl ?_
        refine j_aload_0 93 dX7_entry_92 rfl ?_
        refine j_get 96 0 gf_X7_84 dX7_entry_93 rfl rfl ?_
        refine j_iload 98 dX7_entry_96 rfl ?_
        refine j_iast 99 3 (P.length) dX7_entry_98 rfl rfl rfl (by omega) ?_
        refine j_aload_0 100 dX7_entry_99 rfl ?_
        refine j_dup 101 dX7_entry_100 rfl ?_
        refine j_get 104 0 gf_X7_84 dX7_entry_101 rfl rfl ?_
        refine j_iconst 105 dX7_entry_104 ?_
        refine j_iadd 106 dX7_entry_105 ?_
        refine j_put 109 0 pf_X7_84 dX7_entry_106 rfl ⟨rfl, rfl, rfl⟩ ?_
        refine j_aload_0 110 dX7_entry_109 rfl ?_
        refine j_get 113 0 gf_X7_84 dX7_entry_110 rfl rfl ?_
        refine j_iconst 114 dX7_entry_113 ?_
        refine j_isub 115 dX7_entry_114 ?_
        refine j_istore 117 (lv' := [(0, _), (1, _), (2, _), (3, _), (4, _), (5, _), (6, _), (7, _), (8, _)]) dX7_entry_115 rfl ⟨rfl, rfl⟩ ?_
        have hpu : pileIs (upd pi P.length (iI p)) (p :: P) := by
          have h := pileIs_push (x := iI p) hpi
          rw [iI_t ⟨by omega, by omega⟩] at h
          exact h
        refine j_eqM (M' := [(m0, jO 7 [.int (iI 0), .int (iI ask), .int (iI fnd), .ref m1, .ref m2, .ref m3, .int (iI n), .int (iI wd), .ref m4, .ref m5, .int (iI mm), .ref m6, .ref m7, .int (iI um), .ref m8, .ref m9, .ref m10, .ref m11, .int (iI (((p :: P).length : Nat) : Int)), .int (iI nd), .ref m12, .int (iI pal)]), (m1, jA E 5 (aI fm)), (m5, jA E 256 md0), (m11, jA E 48 (upd pi P.length (iI p)))]) (by rw [List.length_cons, show ((P.length + 1 : Nat) : Int) = (P.length : Int) + 1 by omega]; rfl) ?_
        refine j_eqL (lv' := [(0, .ref m0), (1, .int (iI (s : Int))), (2, .int (iI i)), (3, .int (iI j)), (4, .int (iI (top : Int))), (5, .int (iI (p))), (6, .int (iI (z))), (7, .int (iI (((d0 + 1 : Nat) : Int) - 1))), (8, .int (iI ((((p :: P).length : Nat) : Int) - 1)))]) (by rw [List.length_cons, show ((P.length + 1 : Nat) : Int) = (P.length : Int) + 1 by omega]) ?_
        by_cases hpj : p = j
        · rw [if_pos hpj] at kk
          refine lp7_entry_in E fnd ask wd n mm um nd fm m0 m1 m2 m3 m4 m5 m6 m7 m8 m9 m10 m11 m12 pal md0 s i j hs hi hj top _ _ _ p _ hpj (by omega) (p :: P) z hpu (by rw [List.length_cons]; omega) (fun k8 => ?_)
          refine j_iinc 162 (lv' := [(0, _), (1, _), (2, _), (3, _), (4, _), (5, _), (6, _), (7, _), (8, _)]) dX7_entry_159 rfl rfl ⟨rfl, rfl⟩ ?_
          refine j_iinc 165 (lv' := [(0, _), (1, _), (2, _), (3, _), (4, _), (5, _), (6, _), (7, _), (8, _)]) dX7_entry_162 rfl rfl ⟨rfl, rfl⟩ ?_
          refine j_goto 61 dX7_entry_165 ?_
          refine j_eqL (lv' := ([(0, .ref m0), (1, .int (iI (s : Int))), (2, .int (iI i)), (3, .int (iI j)), (4, .int (iI (top : Int))), (5, .int (iI (p + 1))), (6, .int (iI (scT i z (p :: P)))), (7, .int (iI ((d0 : Int) - 1)))] ++ [(8, .int (iI k8))])) (by rw [show ((d0 + 1 : Nat) : Int) - 1 + -1 = (d0 : Int) - 1 by omega]; rfl) ?_
          exact ih d0 (p :: P) (p + 1) _ _ _ (by omega) (by rw [List.length_cons]; omega) (by omega) (by rw [List.length_cons]; exact hok) hpu (Or.inr ⟨_, rfl⟩) kk
        · rw [if_neg hpj] at kk
          refine j_iload 119 dX7_entry_117 rfl ?_
          refine j_if_lt 159 122 dX7_entry_119 (by rw [List.length_cons]; exact ⟨by omega, by omega⟩) (fun q119 => ?_) (fun q119 => ?_)
          · rw [List.length_cons] at q119; omega
          · refine j_iload 124 dX7_entry_122 rfl ?_
            refine j_iload_3 125 dX7_entry_124 rfl ?_
            refine j_icmp_ne 159 128 dX7_entry_125 (by first | with_reducible exact iI_rng _ | with_reducible exact bI_r _ | exact ⟨by omega, by omega⟩) (by first | with_reducible exact iI_rng _ | with_reducible exact bI_r _ | exact ⟨by omega, by omega⟩) (fun q125 => ?_) (fun q125 => ?_)
            · refine j_iinc 162 (lv' := [(0, _), (1, _), (2, _), (3, _), (4, _), (5, _), (6, _), (7, _), (8, _)]) dX7_entry_159 rfl rfl ⟨rfl, rfl⟩ ?_
              refine j_iinc 165 (lv' := [(0, _), (1, _), (2, _), (3, _), (4, _), (5, _), (6, _), (7, _), (8, _)]) dX7_entry_162 rfl rfl ⟨rfl, rfl⟩ ?_
              refine j_goto 61 dX7_entry_165 ?_
              refine j_eqL (lv' := ([(0, .ref m0), (1, .int (iI (s : Int))), (2, .int (iI i)), (3, .int (iI j)), (4, .int (iI (top : Int))), (5, .int (iI (p + 1))), (6, .int (iI (z))), (7, .int (iI ((d0 : Int) - 1)))] ++ [(8, .int (iI (((p :: P).length : Nat) - 1)))])) (by rw [show ((d0 + 1 : Nat) : Int) - 1 + -1 = (d0 : Int) - 1 by omega]; rfl) ?_
              exact ih d0 (p :: P) (p + 1) _ _ _ (by omega) (by rw [List.length_cons]; omega) (by omega) (by rw [List.length_cons]; exact hok) hpu (Or.inr ⟨_, rfl⟩) kk
            · exact absurd q125 hpj
      · have hbit : s / 2 ^ d0 % 2 = 0 := by omega
        rw [show enOK s (d0 + 1) P.length = (decide (1 ≤ P.length) && enOK s d0 (P.length - 1)) from if_pos hbit, Bool.and_eq_true] at hok
        have hl1 : 1 ≤ P.length := of_decide_eq_true hok.1
        rw [show enM s i j (d0 + 1) P p z = enM s i j d0 P.tail p z from if_pos hbit] at kk
        refine j_aload_0 76 dX7_entry_75 rfl ?_
        refine j_dup 77 dX7_entry_76 rfl ?_
        refine j_get 80 0 gf_X7_84 dX7_entry_77 rfl rfl ?_
        refine j_iconst 81 dX7_entry_80 ?_
        refine j_isub 82 dX7_entry_81 ?_
        refine j_put 85 0 pf_X7_84 dX7_entry_82 rfl ⟨rfl, rfl, rfl⟩ ?_
        refine j_goto 162 dX7_entry_85 ?_
        refine j_iinc 165 (lv' := [(0, _), (1, _), (2, _), (3, _), (4, _), (5, _), (6, _), (7, _)]) dX7_entry_162 rfl rfl ⟨rfl, rfl⟩ ?_
        refine j_goto 61 dX7_entry_165 ?_
        refine j_eqM (M' := [(m0, jO 7 [.int (iI 0), .int (iI ask), .int (iI fnd), .ref m1, .ref m2, .ref m3, .int (iI n), .int (iI wd), .ref m4, .ref m5, .int (iI mm), .ref m6, .ref m7, .int (iI um), .ref m8, .ref m9, .ref m10, .ref m11, .int (iI ((P.tail.length : Nat) : Int)), .int (iI nd), .ref m12, .int (iI pal)]), (m1, jA E 5 (aI fm)), (m5, jA E 256 md0), (m11, jA E 48 pi)]) (by rw [List.length_tail, show ((P.length - 1 : Nat) : Int) = (P.length : Int) - 1 by omega]; rfl) ?_
        refine j_eqL (lv' := ([(0, .ref m0), (1, .int (iI (s : Int))), (2, .int (iI i)), (3, .int (iI j)), (4, .int (iI (top : Int))), (5, .int (iI (p))), (6, .int (iI (z))), (7, .int (iI ((d0 : Int) - 1)))] ++ [])) (by rw [show ((d0 + 1 : Nat) : Int) - 1 + -1 = (d0 : Int) - 1 by omega]; rfl) ?_
        exact ih d0 P.tail p z pi [] (by omega) (by rw [List.length_tail]; omega) (by omega) (by rw [List.length_tail]; exact hok.2) (by cases P with | nil => trivial | cons a P => exact hpi.2) (Or.inl rfl) kk

set_option maxRecDepth 100000 in
set_option maxHeartbeats 4000000 in
theorem lp7_entry_top (E : jD) (fnd : Int) (ask : Int) (wd : Int) (n : Int) (mm : Int) (um : Int) (nd : Int) (fm : Nat → Int) (m0 : Nat) (m1 : Nat) (m2 : Nat) (m3 : Nat) (m4 : Nat) (m5 : Nat) (m6 : Nat) (m7 : Nat) (m8 : Nat) (m9 : Nat) (m10 : Nat) (m11 : Nat) (m12 : Nat) (pal : Int) (md0 : Nat → Int32) (s : Nat) (i j : Int) (hs : s < 4096) (Z : jZ) (pd : Int) (pi : Nat → Int32) (kk : J E Y_X7_entry Z 0 0 43 [(0, .ref m0), (1, .int (iI (s : Int))), (2, .int (iI i)), (3, .int (iI j)), (4, .int (iI (((ldF s 11 : Nat) : Int) : Int)))] [] [(m0, jO 7 [.int (iI 0), .int (iI ask), .int (iI fnd), .ref m1, .ref m2, .ref m3, .int (iI n), .int (iI wd), .ref m4, .ref m5, .int (iI mm), .ref m6, .ref m7, .int (iI um), .ref m8, .ref m9, .ref m10, .ref m11, .int (iI pd), .int (iI nd), .ref m12, .int (iI pal)]), (m1, jA E 5 (aI fm)), (m5, jA E 256 md0), (m11, jA E 48 pi)]) : ∀ (d : Nat) (k : Nat), 11 - k < d → (k ≤ ldF s 11) → J E Y_X7_entry Z 0 0 28 [(0, .ref m0), (1, .int (iI (s : Int))), (2, .int (iI i)), (3, .int (iI j)), (4, .int (iI (k : Int)))] [] [(m0, jO 7 [.int (iI 0), .int (iI ask), .int (iI fnd), .ref m1, .ref m2, .ref m3, .int (iI n), .int (iI wd), .ref m4, .ref m5, .int (iI mm), .ref m6, .ref m7, .int (iI um), .ref m8, .ref m9, .ref m10, .ref m11, .int (iI pd), .int (iI nd), .ref m12, .int (iI pal)]), (m1, jA E 5 (aI fm)), (m5, jA E 256 md0), (m11, jA E 48 pi)] := by
  intro d
  induction d with
  | zero => intros; omega
  | succ d ih =>
    intro k hd hk
    have hld := ldF_le s 11
    have hle := Nat.div_le_self s (2 ^ (k + 1))
    refine j_iload_1 29 dX7_entry_28 rfl ?_
    refine j_iload 31 dX7_entry_29 rfl ?_
    refine j_iconst 32 dX7_entry_31 ?_
    refine j_iadd 33 dX7_entry_32 ?_
    refine j_top ((k + 1 : Nat) : Int) rfl ?_
    refine j_ishr 34 dX7_entry_33 ?_
    refine j_top _ (iI_shrk (by omega) (by omega)) ?_
    refine j_if_le 43 37 dX7_entry_34 (jr_nat (by omega)) (fun q34 => ?_) (fun q34 => ?_)
    · have h1 : ldF s 11 ≤ k := (ldF_at hs (by omega)).mp (Nat.le_zero.mp (Int.ofNat_le.mp q34))
      obtain rfl : ldF s 11 = k := by omega
      exact kk
    · have h1 : ¬ ldF s 11 ≤ k := fun z => q34 (by rw [(ldF_at hs (by omega)).mpr z]; decide)
      refine j_iinc 40 (lv' := [(0, _), (1, _), (2, _), (3, _), (4, _)]) dX7_entry_37 rfl rfl ⟨rfl, rfl⟩ ?_
      refine j_goto 28 dX7_entry_40 ?_
      exact ih (k + 1) (by omega) (by omega)

set_option maxRecDepth 100000 in
set_option maxHeartbeats 4000000 in
theorem c_X7_entry_bey (E : jD) (fnd : Int) (ask : Int) (wd : Int) (n : Int) (mm : Int) (um : Int) (nd : Int) (fm : Nat → Int) (m0 : Nat) (m1 : Nat) (m2 : Nat) (m3 : Nat) (m4 : Nat) (m5 : Nat) (m6 : Nat) (m7 : Nat) (m8 : Nat) (m9 : Nat) (m10 : Nat) (m11 : Nat) (m12 : Nat) (thr : Int) (pd : Int) (pal : Int) (md0 : Nat → Int32) (pi : Nat → Int32) (s o0 : Nat) (i j c : Int) (hn : 1 ≤ n ∧ n ≤ 48) (hs : s < 4096) (hb : mB md0 s = true) (hok : enOK s (ldF s 11) 0 = true) (hi : jr i) (hj : jr j) (hp : (o0 : Int) = (enM s i j (ldF s 11) [] 0 (-9)).1) (ho : o0 ≤ 12) (hc : (i < 0 ∨ j < i ∨ (o0 : Int) ≤ j) ∧ c = 2) : MC E Y_X7_entry [.ref m0, .int (iI (s : Int)), .int (iI i), .int (iI j)] [(m0, jO 7 [.int (iI thr), .int (iI ask), .int (iI fnd), .ref m1, .ref m2, .ref m3, .int (iI n), .int (iI wd), .ref m4, .ref m5, .int (iI mm), .ref m6, .ref m7, .int (iI um), .ref m8, .ref m9, .ref m10, .ref m11, .int (iI pd), .int (iI nd), .ref m12, .int (iI pal)]), (m1, jA E 5 (aI fm)), (m5, jA E 256 md0), (m11, jA E 48 pi)] (fun rr N0 => ∃ pd2 pi2, rr = some (.int (iI (rz c))) ∧ N0 = [(m0, jO 7 [.int (iI 0), .int (iI ask), .int (iI (rf c fnd)), .ref m1, .ref m2, .ref m3, .int (iI n), .int (iI wd), .ref m4, .ref m5, .int (iI mm), .ref m6, .ref m7, .int (iI um), .ref m8, .ref m9, .ref m10, .ref m11, .int (iI pd2), .int (iI nd), .ref m12, .int (iI pal)]), (m1, jA E 5 (aI (rm c fm))), (m5, jA E 256 md0), (m11, jA E 48 pi2)]) := by
  refine MC.of (by decide) rfl rfl ?_
  refine j_aload_0 1 dX7_entry_0 rfl ?_
  refine j_iconst 2 dX7_entry_1 ?_
  refine j_put 5 0 pf_X7_46 dX7_entry_2 rfl ⟨rfl, rfl, rfl⟩ ?_
  refine j_aload_0 6 dX7_entry_5 rfl ?_
  refine j_get 9 0 gf_X7_81 dX7_entry_6 rfl rfl ?_
  refine j_if_ne 15 12 dX7_entry_9 (by first | with_reducible exact iI_rng _ | with_reducible exact bI_r _ | exact ⟨by omega, by omega⟩) (fun q9 => ?_) (fun q9 => ?_)
  · refine j_aload_0 16 dX7_entry_15 rfl ?_
    refine j_iload_1 17 dX7_entry_16 rfl ?_
    refine j_callVi 20 Y_X7_isMade [0, 2] [_] (c_X7_isMade E _ _ _ _ _ _ _ _ _ _ _ _ _ _ _ _ _ _ _ _ _ _ _ _ _ (by exact ⟨by omega, by omega⟩)) m_X7_isMade wml_X7_90 dX7_entry_17 0 rfl rfl rfl rfl rfl rfl rfl rfl rfl rfl ?_
    refine j_bif_ne 25 23 dX7_entry_20 (fun q20 => ?_) (fun q20 => ?_)
    · refine j_iconst 26 dX7_entry_25 ?_
      refine j_istore 28 (lv' := [(0, _), (1, _), (2, _), (3, _), (4, _)]) dX7_entry_26 rfl ⟨rfl, rfl⟩ ?_
      refine lp7_entry_top E fnd ask wd n mm um nd fm m0 m1 m2 m3 m4 m5 m6 m7 m8 m9 m10 m11 m12 pal md0 s i j hs _ pd pi ?_ 12 0 (by omega) (by omega)
      have hld := ldF_le s 11
      refine j_iconst 44 dX7_entry_43 ?_
      refine j_istore 46 (lv' := [(0, _), (1, _), (2, _), (3, _), (4, _), (5, _)]) dX7_entry_44 rfl ⟨rfl, rfl⟩ ?_
      refine j_bipush 48 dX7_entry_46 (by decide +kernel) ?_
      refine j_istore 50 (lv' := [(0, _), (1, _), (2, _), (3, _), (4, _), (5, _), (6, _)]) dX7_entry_48 rfl ⟨rfl, rfl⟩ ?_
      refine j_aload_0 51 dX7_entry_50 rfl ?_
      refine j_iconst 52 dX7_entry_51 ?_
      refine j_put 55 0 pf_X7_84 dX7_entry_52 rfl ⟨rfl, rfl, rfl⟩ ?_
      refine j_iload 57 dX7_entry_55 rfl ?_
      refine j_iconst 58 dX7_entry_57 ?_
      refine j_isub 59 dX7_entry_58 ?_
      refine j_istore 61 (lv' := [(0, _), (1, _), (2, _), (3, _), (4, _), (5, _), (6, _), (7, _)]) dX7_entry_59 rfl ⟨rfl, rfl⟩ ?_
      refine j_eqL (lv' := ([(0, .ref m0), (1, .int (iI (s : Int))), (2, .int (iI i)), (3, .int (iI j)), (4, .int (iI ((ldF s 11 : Nat) : Int))), (5, .int (iI (0))), (6, .int (iI (-9))), (7, .int (iI (((ldF s 11 : Nat) : Int) - 1)))] ++ [])) rfl ?_
      refine lp7_entry E fnd ask wd n mm um nd fm m0 m1 m2 m3 m4 m5 m6 m7 m8 m9 m10 m11 m12 pal md0 s i j hs hi hj (ldF s 11) _ (ldF s 11 + 1) (ldF s 11) [] 0 (-9) pi [] (by omega) (by simp only [List.length_nil]; omega) (by omega) hok trivial (Or.inl rfl) (fun z8 pd2 pi2 => ?_)
      refine j_take 8 ?_
      rw [← hp]
      refine j_iload_2 169 dX7_entry_168 rfl ?_
      refine j_iconst 170 dX7_entry_169 ?_
      refine j_iload 172 dX7_entry_170 rfl ?_
      refine j_iconst 173 dX7_entry_172 ?_
      refine j_isub 174 dX7_entry_173 ?_
      refine j_callSi 177 Y_X7_in [] [_, _, _] (c_X7_in E _ _ _ (by first | with_reducible assumption | with_reducible exact iI_rng _ | exact ⟨by omega, by omega⟩) (by first | with_reducible assumption | with_reducible exact iI_rng _ | exact ⟨by omega, by omega⟩) (by first | with_reducible assumption | with_reducible exact iI_rng _ | exact ⟨by omega, by omega⟩)) m_X7_in wml_X7_56 dX7_entry_174 rfl rfl rfl rfl rfl rfl rfl ?_
      refine j_bif_eq 197 180 dX7_entry_177 (fun q177 => ?_) (fun q177 => ?_)
      · refine j_aload_0 198 dX7_entry_197 rfl ?_
        refine j_iconst 199 dX7_entry_198 ?_
        obtain rfl : c = 2 := by omega
        refine j_callV 202 Y_X7_found [0, 1] [_] (c_X7_found E _ _ _ _ _ _ _ _ _ _ _ _ _ _ _ _ _ _ _ _ _ _ _ _ 2 (by decide)) m_X7_found wml_X7_64 dX7_entry_199 0 rfl rfl rfl rfl rfl rfl rfl rfl rfl (fun r N h => by obtain ⟨rfl, rfl⟩ := h; rfl) (fun r N h => ?_)
        obtain ⟨rfl, rfl⟩ := h
        exact j_iret dX7_entry_202 rfl rfl ⟨pd2, pi2, rfl, rfl⟩
      · refine j_iload_3 181 dX7_entry_180 rfl ?_
        refine j_iload_2 182 dX7_entry_181 rfl ?_
        refine j_iload 184 dX7_entry_182 rfl ?_
        refine j_iconst 185 dX7_entry_184 ?_
        refine j_isub 186 dX7_entry_185 ?_
        refine j_callSi 189 Y_X7_in [] [_, _, _] (c_X7_in E _ _ _ (by first | with_reducible assumption | with_reducible exact iI_rng _ | exact ⟨by omega, by omega⟩) (by first | with_reducible assumption | with_reducible exact iI_rng _ | exact ⟨by omega, by omega⟩) (by first | with_reducible assumption | with_reducible exact iI_rng _ | exact ⟨by omega, by omega⟩)) m_X7_in wml_X7_56 dX7_entry_186 rfl rfl rfl rfl rfl rfl rfl ?_
        refine j_bif_eq 197 192 dX7_entry_189 (fun q189 => ?_) (fun q189 => ?_)
        · refine j_aload_0 198 dX7_entry_197 rfl ?_
          refine j_iconst 199 dX7_entry_198 ?_
          obtain rfl : c = 2 := by omega
          refine j_callV 202 Y_X7_found [0, 1] [_] (c_X7_found E _ _ _ _ _ _ _ _ _ _ _ _ _ _ _ _ _ _ _ _ _ _ _ _ 2 (by decide)) m_X7_found wml_X7_64 dX7_entry_199 0 rfl rfl rfl rfl rfl rfl rfl rfl rfl (fun r N h => by obtain ⟨rfl, rfl⟩ := h; rfl) (fun r N h => ?_)
          obtain ⟨rfl, rfl⟩ := h
          exact j_iret dX7_entry_202 rfl rfl ⟨pd2, pi2, rfl, rfl⟩
        · omega
    · exact absurd ⟨by omega, by omega, hb⟩ q20
  · omega

set_option maxRecDepth 100000 in
set_option maxHeartbeats 4000000 in
theorem c_X7_entry_ok (E : jD) (fnd : Int) (ask : Int) (wd : Int) (n : Int) (mm : Int) (um : Int) (nd : Int) (fm : Nat → Int) (m0 : Nat) (m1 : Nat) (m2 : Nat) (m3 : Nat) (m4 : Nat) (m5 : Nat) (m6 : Nat) (m7 : Nat) (m8 : Nat) (m9 : Nat) (m10 : Nat) (m11 : Nat) (m12 : Nat) (thr : Int) (pd : Int) (pal : Int) (md0 : Nat → Int32) (pi : Nat → Int32) (s o0 : Nat) (i j : Int) (hn : 1 ≤ n ∧ n ≤ 48) (hs : s < 4096) (hb : mB md0 s = true) (hok : enOK s (ldF s 11) 0 = true) (hi : jr i) (hj : jr j) (hp : (o0 : Int) = (enM s i j (ldF s 11) [] 0 (-9)).1) (ho : o0 ≤ 12) (hc : 0 ≤ i ∧ i ≤ j ∧ j < (o0 : Int)) : MC E Y_X7_entry [.ref m0, .int (iI (s : Int)), .int (iI i), .int (iI j)] [(m0, jO 7 [.int (iI thr), .int (iI ask), .int (iI fnd), .ref m1, .ref m2, .ref m3, .int (iI n), .int (iI wd), .ref m4, .ref m5, .int (iI mm), .ref m6, .ref m7, .int (iI um), .ref m8, .ref m9, .ref m10, .ref m11, .int (iI pd), .int (iI nd), .ref m12, .int (iI pal)]), (m1, jA E 5 (aI fm)), (m5, jA E 256 md0), (m11, jA E 48 pi)] (fun rr N0 => ∃ pd2 pi2, rr = some (.int (iI ((enM s i j (ldF s 11) [] 0 (-9)).2))) ∧ N0 = [(m0, jO 7 [.int (iI 0), .int (iI ask), .int (iI fnd), .ref m1, .ref m2, .ref m3, .int (iI n), .int (iI wd), .ref m4, .ref m5, .int (iI mm), .ref m6, .ref m7, .int (iI um), .ref m8, .ref m9, .ref m10, .ref m11, .int (iI pd2), .int (iI nd), .ref m12, .int (iI pal)]), (m1, jA E 5 (aI fm)), (m5, jA E 256 md0), (m11, jA E 48 pi2)]) := by
  refine MC.of (by decide) rfl rfl ?_
  refine j_aload_0 1 dX7_entry_0 rfl ?_
  refine j_iconst 2 dX7_entry_1 ?_
  refine j_put 5 0 pf_X7_46 dX7_entry_2 rfl ⟨rfl, rfl, rfl⟩ ?_
  refine j_aload_0 6 dX7_entry_5 rfl ?_
  refine j_get 9 0 gf_X7_81 dX7_entry_6 rfl rfl ?_
  refine j_if_ne 15 12 dX7_entry_9 (by first | with_reducible exact iI_rng _ | with_reducible exact bI_r _ | exact ⟨by omega, by omega⟩) (fun q9 => ?_) (fun q9 => ?_)
  · refine j_aload_0 16 dX7_entry_15 rfl ?_
    refine j_iload_1 17 dX7_entry_16 rfl ?_
    refine j_callVi 20 Y_X7_isMade [0, 2] [_] (c_X7_isMade E _ _ _ _ _ _ _ _ _ _ _ _ _ _ _ _ _ _ _ _ _ _ _ _ _ (by exact ⟨by omega, by omega⟩)) m_X7_isMade wml_X7_90 dX7_entry_17 0 rfl rfl rfl rfl rfl rfl rfl rfl rfl rfl ?_
    refine j_bif_ne 25 23 dX7_entry_20 (fun q20 => ?_) (fun q20 => ?_)
    · refine j_iconst 26 dX7_entry_25 ?_
      refine j_istore 28 (lv' := [(0, _), (1, _), (2, _), (3, _), (4, _)]) dX7_entry_26 rfl ⟨rfl, rfl⟩ ?_
      refine lp7_entry_top E fnd ask wd n mm um nd fm m0 m1 m2 m3 m4 m5 m6 m7 m8 m9 m10 m11 m12 pal md0 s i j hs _ pd pi ?_ 12 0 (by omega) (by omega)
      have hld := ldF_le s 11
      refine j_iconst 44 dX7_entry_43 ?_
      refine j_istore 46 (lv' := [(0, _), (1, _), (2, _), (3, _), (4, _), (5, _)]) dX7_entry_44 rfl ⟨rfl, rfl⟩ ?_
      refine j_bipush 48 dX7_entry_46 (by decide +kernel) ?_
      refine j_istore 50 (lv' := [(0, _), (1, _), (2, _), (3, _), (4, _), (5, _), (6, _)]) dX7_entry_48 rfl ⟨rfl, rfl⟩ ?_
      refine j_aload_0 51 dX7_entry_50 rfl ?_
      refine j_iconst 52 dX7_entry_51 ?_
      refine j_put 55 0 pf_X7_84 dX7_entry_52 rfl ⟨rfl, rfl, rfl⟩ ?_
      refine j_iload 57 dX7_entry_55 rfl ?_
      refine j_iconst 58 dX7_entry_57 ?_
      refine j_isub 59 dX7_entry_58 ?_
      refine j_istore 61 (lv' := [(0, _), (1, _), (2, _), (3, _), (4, _), (5, _), (6, _), (7, _)]) dX7_entry_59 rfl ⟨rfl, rfl⟩ ?_
      refine j_eqL (lv' := ([(0, .ref m0), (1, .int (iI (s : Int))), (2, .int (iI i)), (3, .int (iI j)), (4, .int (iI ((ldF s 11 : Nat) : Int))), (5, .int (iI (0))), (6, .int (iI (-9))), (7, .int (iI (((ldF s 11 : Nat) : Int) - 1)))] ++ [])) rfl ?_
      refine lp7_entry E fnd ask wd n mm um nd fm m0 m1 m2 m3 m4 m5 m6 m7 m8 m9 m10 m11 m12 pal md0 s i j hs hi hj (ldF s 11) _ (ldF s 11 + 1) (ldF s 11) [] 0 (-9) pi [] (by omega) (by simp only [List.length_nil]; omega) (by omega) hok trivial (Or.inl rfl) (fun z8 pd2 pi2 => ?_)
      refine j_take 8 ?_
      rw [← hp]
      refine j_iload_2 169 dX7_entry_168 rfl ?_
      refine j_iconst 170 dX7_entry_169 ?_
      refine j_iload 172 dX7_entry_170 rfl ?_
      refine j_iconst 173 dX7_entry_172 ?_
      refine j_isub 174 dX7_entry_173 ?_
      refine j_callSi 177 Y_X7_in [] [_, _, _] (c_X7_in E _ _ _ (by first | with_reducible assumption | with_reducible exact iI_rng _ | exact ⟨by omega, by omega⟩) (by first | with_reducible assumption | with_reducible exact iI_rng _ | exact ⟨by omega, by omega⟩) (by first | with_reducible assumption | with_reducible exact iI_rng _ | exact ⟨by omega, by omega⟩)) m_X7_in wml_X7_56 dX7_entry_174 rfl rfl rfl rfl rfl rfl rfl ?_
      refine j_bif_eq 197 180 dX7_entry_177 (fun q177 => ?_) (fun q177 => ?_)
      · omega
      · refine j_iload_3 181 dX7_entry_180 rfl ?_
        refine j_iload_2 182 dX7_entry_181 rfl ?_
        refine j_iload 184 dX7_entry_182 rfl ?_
        refine j_iconst 185 dX7_entry_184 ?_
        refine j_isub 186 dX7_entry_185 ?_
        refine j_callSi 189 Y_X7_in [] [_, _, _] (c_X7_in E _ _ _ (by first | with_reducible assumption | with_reducible exact iI_rng _ | exact ⟨by omega, by omega⟩) (by first | with_reducible assumption | with_reducible exact iI_rng _ | exact ⟨by omega, by omega⟩) (by first | with_reducible assumption | with_reducible exact iI_rng _ | exact ⟨by omega, by omega⟩)) m_X7_in wml_X7_56 dX7_entry_186 rfl rfl rfl rfl rfl rfl rfl ?_
        refine j_bif_eq 197 192 dX7_entry_189 (fun q189 => ?_) (fun q189 => ?_)
        · omega
        · refine j_iload 194 dX7_entry_192 rfl ?_
          refine j_goto 202 dX7_entry_194 ?_
          exact j_iret dX7_entry_202 rfl rfl ⟨pd2, pi2, rfl, rfl⟩
    · exact absurd ⟨by omega, by omega, hb⟩ q20
  · omega
