set_option maxRecDepth 100000 in
set_option maxHeartbeats 4000000 in
theorem c_X6_tree_bad (E : jD) (h0 : Nat) (h1 : Nat) (x0 : Nat) (g0 : Nat) (h10 : Nat) (y0 : Nat) (h42 : Nat) (fnd : Int) (ask : Int) (r : Int) (hr : jr r) (hb : r < 0 ∨ 4 ≤ r) : MC E Y_X6_tree [.ref h0, .int (iI r)] [(h0, jO 6 [.ref h1, .ref x0, .ref g0, .ref h10, .ref y0, .ref h42, .int (iI fnd), .int (iI ask)])] (fun rr N0 => rr = some (.int (iI (-1))) ∧ N0 = [(h0, jO 6 [.ref h1, .ref x0, .ref g0, .ref h10, .ref y0, .ref h42, .int (iI fnd), .int (iI ask)])]) := by
  refine MC.of (by decide) rfl rfl ?_
  refine j_iload_1 1 dX6_tree_0 rfl ?_
  refine j_callSi 4 Y_X6_isNoRow [] [_] (c_X6_isNoRow E _ (by first | with_reducible assumption | exact ⟨by omega, by omega⟩)) m_X6_isNoRow wml_X6_55 dX6_tree_1 rfl rfl rfl rfl rfl rfl rfl ?_
  refine j_bif_eq 9 7 dX6_tree_4 (fun q4 => ?_) (fun q4 => ?_)
  · omega
  · refine j_iconst 8 dX6_tree_7 ?_
    exact j_iret dX6_tree_8 rfl rfl ⟨rfl, rfl⟩

set_option maxRecDepth 100000 in
set_option maxHeartbeats 4000000 in
theorem c_X6_tree_no (E : jD) (h0 : Nat) (h1 : Nat) (x0 : Nat) (g0 : Nat) (h10 : Nat) (y0 : Nat) (h42 : Nat) (b : Nat) (b1 : Nat) (fnd : Int) (ask : Int) (N : Int) (fm : Nat → Int) (ra : Nat → Option Nat) (r : Nat) (c : Int) (hr4 : r < 4) (hra : ra r = some b) (hN : -1 ≤ N ∧ N ≤ 48) (hc : (N < 0 ∧ c = 1) ∨ (0 ≤ N ∧ (N < 1 ∨ 24 < N) ∧ c = 3)) : MC E Y_X6_tree [.ref h0, .int (iI (r : Int))] [(h0, jO 6 [.ref h1, .ref x0, .ref g0, .ref h10, .ref y0, .ref h42, .int (iI fnd), .int (iI ask)]), (h42, jA E 5 (aI fm)), (h1, jR E 2 4 ra), (b, jO 4 [.ref b1, .int (iI N)])] (fun rr N0 => rr = some (.int (iI (rz c))) ∧ N0 = [(h0, jO 6 [.ref h1, .ref x0, .ref g0, .ref h10, .ref y0, .ref h42, .int (iI (rf c fnd)), .int (iI ask)]), (h42, jA E 5 (aI (rm c fm))), (h1, jR E 2 4 ra), (b, jO 4 [.ref b1, .int (iI N)])]) := by
  refine MC.of (by decide) rfl rfl ?_
  refine j_iload_1 1 dX6_tree_0 rfl ?_
  refine j_callSi 4 Y_X6_isNoRow [] [_] (c_X6_isNoRow E _ (by first | with_reducible assumption | exact ⟨by omega, by omega⟩)) m_X6_isNoRow wml_X6_55 dX6_tree_1 rfl rfl rfl rfl rfl rfl rfl ?_
  refine j_bif_eq 9 7 dX6_tree_4 (fun q4 => ?_) (fun q4 => ?_)
  · refine j_aload_0 10 dX6_tree_9 rfl ?_
    refine j_get 13 0 gf_X6_11 dX6_tree_10 rfl rfl ?_
    refine j_iload_1 14 dX6_tree_13 rfl ?_
    refine j_aald2 15 2 _ b dX6_tree_14 rfl rfl rfl (by omega) hra ?_
    refine j_callVi 18 Y_X4_isMissing [3] [] (c_X4_isMissing E _ _ _ (by exact ⟨by omega, by omega⟩)) m_X4_isMissing wml_X6_74 dX6_tree_15 0 rfl rfl rfl rfl rfl rfl rfl rfl rfl rfl ?_
    refine j_bif_eq 27 21 dX6_tree_18 (fun q18 => ?_) (fun q18 => ?_)
    · refine j_aload_0 28 dX6_tree_27 rfl ?_
      refine j_get 31 0 gf_X6_11 dX6_tree_28 rfl rfl ?_
      refine j_iload_1 32 dX6_tree_31 rfl ?_
      refine j_aald2 33 2 _ b dX6_tree_32 rfl rfl rfl (by omega) hra ?_
      refine j_get 36 3 gf_X6_78 dX6_tree_33 rfl rfl ?_
      refine j_iconst 37 dX6_tree_36 ?_
      refine j_icmp_lt 54 40 dX6_tree_37 (by first | with_reducible exact iI_rng _ | with_reducible exact bI_r _ | exact ⟨by omega, by omega⟩) (by first | with_reducible exact iI_rng _ | with_reducible exact bI_r _ | exact ⟨by omega, by omega⟩) (fun q37 => ?_) (fun q37 => ?_)
      · refine j_aload_0 55 dX6_tree_54 rfl ?_
        refine j_iconst 56 dX6_tree_55 ?_
        refine j_callV 59 Y_X6_refuse [0, 1] [_] (c_X6_refuse E _ _ _ _ _ _ _ _ _ _ 3 (by decide)) m_X6_refuse wml_X6_59 dX6_tree_56 0 rfl rfl rfl rfl rfl rfl rfl rfl rfl (fun r N h => by obtain ⟨rfl, rfl⟩ := h; rfl) (fun r N h => ?_)
        obtain ⟨rfl, rfl⟩ := h
        obtain rfl : c = 3 := by omega
        exact j_iret dX6_tree_59 rfl rfl ⟨rfl, rfl⟩
      · refine j_aload_0 41 dX6_tree_40 rfl ?_
        refine j_get 44 0 gf_X6_11 dX6_tree_41 rfl rfl ?_
        refine j_iload_1 45 dX6_tree_44 rfl ?_
        refine j_aald2 46 2 _ b dX6_tree_45 rfl rfl rfl (by omega) hra ?_
        refine j_get 49 3 gf_X6_78 dX6_tree_46 rfl rfl ?_
        refine j_bipush 51 dX6_tree_49 (by decide +kernel) ?_
        refine j_icmp_le 60 54 dX6_tree_51 (by first | with_reducible exact iI_rng _ | with_reducible exact bI_r _ | exact ⟨by omega, by omega⟩) (by first | with_reducible exact iI_rng _ | with_reducible exact bI_r _ | exact ⟨by omega, by omega⟩) (fun q51 => ?_) (fun q51 => ?_)
        · omega
        · refine j_aload_0 55 dX6_tree_54 rfl ?_
          refine j_iconst 56 dX6_tree_55 ?_
          refine j_callV 59 Y_X6_refuse [0, 1] [_] (c_X6_refuse E _ _ _ _ _ _ _ _ _ _ 3 (by decide)) m_X6_refuse wml_X6_59 dX6_tree_56 0 rfl rfl rfl rfl rfl rfl rfl rfl rfl (fun r N h => by obtain ⟨rfl, rfl⟩ := h; rfl) (fun r N h => ?_)
          obtain ⟨rfl, rfl⟩ := h
          obtain rfl : c = 3 := by omega
          exact j_iret dX6_tree_59 rfl rfl ⟨rfl, rfl⟩
    · refine j_aload_0 22 dX6_tree_21 rfl ?_
      refine j_iconst 23 dX6_tree_22 ?_
      refine j_callV 26 Y_X6_refuse [0, 1] [_] (c_X6_refuse E _ _ _ _ _ _ _ _ _ _ 1 (by decide)) m_X6_refuse wml_X6_59 dX6_tree_23 0 rfl rfl rfl rfl rfl rfl rfl rfl rfl (fun r N h => by obtain ⟨rfl, rfl⟩ := h; rfl) (fun r N h => ?_)
      obtain ⟨rfl, rfl⟩ := h
      obtain rfl : c = 1 := by omega
      exact j_iret dX6_tree_26 rfl rfl ⟨rfl, rfl⟩
  · omega

set_option maxRecDepth 100000 in
set_option maxHeartbeats 4000000 in
theorem c_X6_tree_un (E : jD) (h0 : Nat) (h1 : Nat) (x0 : Nat) (g0 : Nat) (h10 : Nat) (y0 : Nat) (h42 : Nat) (b : Nat) (b1 : Nat) (fnd : Int) (ask : Int) (fm : Nat → Int) (ra : Nat → Option Nat) (rf0 : Nat → Int32) (r n2 : Nat) (c : Int) (hr4 : r < 4) (hra : ra r = some b) (hN : 1 ≤ n2 ∧ n2 ≤ 24) (hT : ¬ toldP (tI rf0) n2) (hc : c = 4) : MC E Y_X6_tree [.ref h0, .int (iI (r : Int))] [(h0, jO 6 [.ref h1, .ref x0, .ref g0, .ref h10, .ref y0, .ref h42, .int (iI fnd), .int (iI ask)]), (h42, jA E 5 (aI fm)), (h1, jR E 2 4 ra), (b, jO 4 [.ref b1, .int (iI (n2 : Int))]), (b1, jA E 48 rf0)] (fun rr N0 => rr = some (.int (iI (rz c))) ∧ N0 = [(h0, jO 6 [.ref h1, .ref x0, .ref g0, .ref h10, .ref y0, .ref h42, .int (iI (rf c fnd)), .int (iI ask)]), (h42, jA E 5 (aI (rm c fm))), (h1, jR E 2 4 ra), (b, jO 4 [.ref b1, .int (iI (n2 : Int))]), (b1, jA E 48 rf0)]) := by
  refine MC.of (by decide) rfl rfl ?_
  refine j_iload_1 1 dX6_tree_0 rfl ?_
  refine j_callSi 4 Y_X6_isNoRow [] [_] (c_X6_isNoRow E _ (by first | with_reducible assumption | exact ⟨by omega, by omega⟩)) m_X6_isNoRow wml_X6_55 dX6_tree_1 rfl rfl rfl rfl rfl rfl rfl ?_
  refine j_bif_eq 9 7 dX6_tree_4 (fun q4 => ?_) (fun q4 => ?_)
  · refine j_aload_0 10 dX6_tree_9 rfl ?_
    refine j_get 13 0 gf_X6_11 dX6_tree_10 rfl rfl ?_
    refine j_iload_1 14 dX6_tree_13 rfl ?_
    refine j_aald2 15 2 _ b dX6_tree_14 rfl rfl rfl (by omega) hra ?_
    refine j_callVi 18 Y_X4_isMissing [3] [] (c_X4_isMissing E _ _ _ (by exact ⟨by omega, by omega⟩)) m_X4_isMissing wml_X6_74 dX6_tree_15 0 rfl rfl rfl rfl rfl rfl rfl rfl rfl rfl ?_
    refine j_bif_eq 27 21 dX6_tree_18 (fun q18 => ?_) (fun q18 => ?_)
    · refine j_aload_0 28 dX6_tree_27 rfl ?_
      refine j_get 31 0 gf_X6_11 dX6_tree_28 rfl rfl ?_
      refine j_iload_1 32 dX6_tree_31 rfl ?_
      refine j_aald2 33 2 _ b dX6_tree_32 rfl rfl rfl (by omega) hra ?_
      refine j_get 36 3 gf_X6_78 dX6_tree_33 rfl rfl ?_
      refine j_iconst 37 dX6_tree_36 ?_
      refine j_icmp_lt 54 40 dX6_tree_37 (by first | with_reducible exact iI_rng _ | with_reducible exact bI_r _ | exact ⟨by omega, by omega⟩) (by first | with_reducible exact iI_rng _ | with_reducible exact bI_r _ | exact ⟨by omega, by omega⟩) (fun q37 => ?_) (fun q37 => ?_)
      · omega
      · refine j_aload_0 41 dX6_tree_40 rfl ?_
        refine j_get 44 0 gf_X6_11 dX6_tree_41 rfl rfl ?_
        refine j_iload_1 45 dX6_tree_44 rfl ?_
        refine j_aald2 46 2 _ b dX6_tree_45 rfl rfl rfl (by omega) hra ?_
        refine j_get 49 3 gf_X6_78 dX6_tree_46 rfl rfl ?_
        refine j_bipush 51 dX6_tree_49 (by decide +kernel) ?_
        refine j_icmp_le 60 54 dX6_tree_51 (by first | with_reducible exact iI_rng _ | with_reducible exact bI_r _ | exact ⟨by omega, by omega⟩) (by first | with_reducible exact iI_rng _ | with_reducible exact bI_r _ | exact ⟨by omega, by omega⟩) (fun q51 => ?_) (fun q51 => ?_)
        · refine j_aload_0 61 dX6_tree_60 rfl ?_
          refine j_get 64 0 gf_X6_11 dX6_tree_61 rfl rfl ?_
          refine j_iload_1 65 dX6_tree_64 rfl ?_
          refine j_aald2 66 2 _ b dX6_tree_65 rfl rfl rfl (by omega) hra ?_
          refine j_callSi 69 Y_X0_isTold [3, 4] [_] (c_X0_isTold E _ _ _ _ (by omega)) m_X0_isTold wml_X6_189 dX6_tree_66 rfl rfl rfl rfl rfl rfl rfl ?_
          refine j_top 0 (congrArg iI (toB_f hT)) ?_
          refine j_if_ne 78 72 dX6_tree_69 (by first | with_reducible exact iI_rng _ | with_reducible exact bI_r _ | exact ⟨by omega, by omega⟩) (fun q69 => ?_) (fun q69 => ?_)
          · omega
          · refine j_aload_0 73 dX6_tree_72 rfl ?_
            refine j_iconst 74 dX6_tree_73 ?_
            refine j_callV 77 Y_X6_refuse [0, 1] [_] (c_X6_refuse E _ _ _ _ _ _ _ _ _ _ 4 (by decide)) m_X6_refuse wml_X6_59 dX6_tree_74 0 rfl rfl rfl rfl rfl rfl rfl rfl rfl (fun r N h => by obtain ⟨rfl, rfl⟩ := h; rfl) (fun r N h => ?_)
            obtain ⟨rfl, rfl⟩ := h
            obtain rfl : c = 4 := by omega
            exact j_iret dX6_tree_77 rfl rfl ⟨rfl, rfl⟩
        · omega
    · omega
  · omega

set_option maxRecDepth 100000 in
set_option maxHeartbeats 4000000 in
theorem c_X6_tree_ok (E : jD) (h0 : Nat) (h1 : Nat) (x0 : Nat) (g0 : Nat) (h10 : Nat) (y0 : Nat) (h42 : Nat) (b : Nat) (b1 : Nat) (y1 : Nat) (y2 : Nat) (y3 : Nat) (y4 : Nat) (y5 : Nat) (y6 : Nat) (y7 : Nat) (y8 : Nat) (y9 : Nat) (y10 : Nat) (y11 : Nat) (y12 : Nat) (y13 : Nat) (y14 : Nat) (fnd : Int) (ask : Int) (nd : Int) (md : Int) (tw : Int) (tb : Int) (tn : Int) (tmm : Int) (ra : Nat → Option Nat) (rf0 : Nat → Int32) (pa : Nat → Int32) (de : Nat → Int32) (sz : Nat → Int32) (fi : Nat → Int32) (mt : Nat → Int32) (mi : Nat → Int32) (tf : Nat → Int32) (tsh : Nat → Int32) (tpl : Nat → Int32) (tws : Nat → Int64) (r n2 : Nat) (hr4 : r < 4) (hra : ra r = some b) (hN : 1 ≤ n2 ∧ n2 ≤ 24) (hT : toldP (tI rf0) n2) (ht : tourOK (tI rf0) n2 (roF (tI rf0) (n2 - 1) 0)) : MC E Y_X6_tree [.ref h0, .int (iI (r : Int))] [(h0, jO 6 [.ref h1, .ref x0, .ref g0, .ref h10, .ref y0, .ref h42, .int (iI fnd), .int (iI ask)]), (h1, jR E 2 4 ra), (b, jO 4 [.ref b1, .int (iI (n2 : Int))]), (b1, jA E 48 rf0), (y0, jO 0 [.ref y1, .ref y2, .ref y3, .ref y4, .ref y5, .ref y6, .ref y8, .int (iI nd)]), (y1, jA E 24 pa), (y2, jA E 24 de), (y3, jA E 24 sz), (y4, jA E 24 fi), (y5, jA E 47 mt), (y6, jO 4 [.ref y7, .int (iI md)]), (y7, jA E 48 mi), (y8, jO 3 [.ref y9, .ref y11, .ref y12, .ref y14, .int (iI tw), .int (iI tb)]), (y9, jO 4 [.ref y10, .int (iI tn)]), (y10, jA E 48 tf), (y11, jA E 48 tsh), (y12, jO 5 [.ref y13, .int (iI tmm)]), (y13, jL E 64 tws), (y14, jA E 6 tpl)] (fun rr N0 => ∃ pa2 de2 sz2 fi2 mt2 md2 mi2 tw2 tb2 tf2 tsh2 tmm2 tws2 tpl2, rr = some (.int (iI (n2 : Int))) ∧ N0 = [(h0, jO 6 [.ref h1, .ref x0, .ref g0, .ref h10, .ref y0, .ref h42, .int (iI fnd), .int (iI ask)]), (h1, jR E 2 4 ra), (b, jO 4 [.ref b1, .int (iI (n2 : Int))]), (b1, jA E 48 rf0), (y0, jO 0 [.ref y1, .ref y2, .ref y3, .ref y4, .ref y5, .ref y6, .ref y8, .int (iI (n2 : Int))]), (y1, jA E 24 pa2), (y2, jA E 24 de2), (y3, jA E 24 sz2), (y4, jA E 24 fi2), (y5, jA E 47 mt2), (y6, jO 4 [.ref y7, .int (iI md2)]), (y7, jA E 48 mi2), (y8, jO 3 [.ref y9, .ref y11, .ref y12, .ref y14, .int (iI tw2), .int (iI tb2)]), (y9, jO 4 [.ref y10, .int (iI ((2 * n2 - 1 : Nat) : Int))]), (y10, jA E 48 tf2), (y11, jA E 48 tsh2), (y12, jO 5 [.ref y13, .int (iI tmm2)]), (y13, jL E 64 tws2), (y14, jA E 6 tpl2)] ∧ famOK (tI rf0) n2 pa2 de2 sz2 fi2 mt2 tf2) := by
  refine MC.of (by decide) rfl rfl ?_
  refine j_iload_1 1 dX6_tree_0 rfl ?_
  refine j_callSi 4 Y_X6_isNoRow [] [_] (c_X6_isNoRow E _ (by first | with_reducible assumption | exact ⟨by omega, by omega⟩)) m_X6_isNoRow wml_X6_55 dX6_tree_1 rfl rfl rfl rfl rfl rfl rfl ?_
  refine j_bif_eq 9 7 dX6_tree_4 (fun q4 => ?_) (fun q4 => ?_)
  · refine j_aload_0 10 dX6_tree_9 rfl ?_
    refine j_get 13 0 gf_X6_11 dX6_tree_10 rfl rfl ?_
    refine j_iload_1 14 dX6_tree_13 rfl ?_
    refine j_aald2 15 1 _ b dX6_tree_14 rfl rfl rfl (by omega) hra ?_
    refine j_callVi 18 Y_X4_isMissing [2] [] (c_X4_isMissing E _ _ _ (by exact ⟨by omega, by omega⟩)) m_X4_isMissing wml_X6_74 dX6_tree_15 0 rfl rfl rfl rfl rfl rfl rfl rfl rfl rfl ?_
    refine j_bif_eq 27 21 dX6_tree_18 (fun q18 => ?_) (fun q18 => ?_)
    · refine j_aload_0 28 dX6_tree_27 rfl ?_
      refine j_get 31 0 gf_X6_11 dX6_tree_28 rfl rfl ?_
      refine j_iload_1 32 dX6_tree_31 rfl ?_
      refine j_aald2 33 1 _ b dX6_tree_32 rfl rfl rfl (by omega) hra ?_
      refine j_get 36 2 gf_X6_78 dX6_tree_33 rfl rfl ?_
      refine j_iconst 37 dX6_tree_36 ?_
      refine j_icmp_lt 54 40 dX6_tree_37 (by first | with_reducible exact iI_rng _ | with_reducible exact bI_r _ | exact ⟨by omega, by omega⟩) (by first | with_reducible exact iI_rng _ | with_reducible exact bI_r _ | exact ⟨by omega, by omega⟩) (fun q37 => ?_) (fun q37 => ?_)
      · omega
      · refine j_aload_0 41 dX6_tree_40 rfl ?_
        refine j_get 44 0 gf_X6_11 dX6_tree_41 rfl rfl ?_
        refine j_iload_1 45 dX6_tree_44 rfl ?_
        refine j_aald2 46 1 _ b dX6_tree_45 rfl rfl rfl (by omega) hra ?_
        refine j_get 49 2 gf_X6_78 dX6_tree_46 rfl rfl ?_
        refine j_bipush 51 dX6_tree_49 (by decide +kernel) ?_
        refine j_icmp_le 60 54 dX6_tree_51 (by first | with_reducible exact iI_rng _ | with_reducible exact bI_r _ | exact ⟨by omega, by omega⟩) (by first | with_reducible exact iI_rng _ | with_reducible exact bI_r _ | exact ⟨by omega, by omega⟩) (fun q51 => ?_) (fun q51 => ?_)
        · refine j_aload_0 61 dX6_tree_60 rfl ?_
          refine j_get 64 0 gf_X6_11 dX6_tree_61 rfl rfl ?_
          refine j_iload_1 65 dX6_tree_64 rfl ?_
          refine j_aald2 66 1 _ b dX6_tree_65 rfl rfl rfl (by omega) hra ?_
          refine j_callSi 69 Y_X0_isTold [2, 3] [_] (c_X0_isTold E _ _ _ _ (by omega)) m_X0_isTold wml_X6_189 dX6_tree_66 rfl rfl rfl rfl rfl rfl rfl ?_
          refine j_top 1 (congrArg iI (toB_t hT)) ?_
          refine j_if_ne 78 72 dX6_tree_69 (by first | with_reducible exact iI_rng _ | with_reducible exact bI_r _ | exact ⟨by omega, by omega⟩) (fun q69 => ?_) (fun q69 => ?_)
          · refine j_aload_0 79 dX6_tree_78 rfl ?_
            refine j_get 82 0 gf_X6_40 dX6_tree_79 rfl rfl ?_
            refine j_aload_0 83 dX6_tree_82 rfl ?_
            refine j_get 86 0 gf_X6_11 dX6_tree_83 rfl rfl ?_
            refine j_iload_1 87 dX6_tree_86 rfl ?_
            refine j_aald2 88 1 _ b dX6_tree_87 rfl rfl rfl (by omega) hra ?_
            refine j_callV 91 Y_X0_becomeTold [4, 5, 6, 7, 8, 9, 10, 11, 12, 13, 14, 15, 16, 17, 18, 2, 3] [_] (c_X0_becomeTold E _ _ _ _ _ _ _ _ _ _ _ _ _ _ _ _ _ _ _ _ _ _ _ _ _ _ _ _ _ _ _ _ _ _ _ (tI rf0) hN (fun _ _ => rfl) hT.1 hT.2.2 ht) m_X0_becomeTold wml_X6_193 dX6_tree_88 0 rfl rfl rfl rfl rfl rfl rfl rfl rfl (fun r N h => by obtain ⟨_, _, _, _, _, _, _, _, _, _, _, _, _, _, rfl, rfl, _⟩ := h; rfl) (fun r N h => ?_)
            obtain ⟨pa2, de2, sz2, fi2, mt2, md2, mi2, tw2, tb2, tf2, tsh2, tmm2, tws2, tpl2, rfl, rfl, hfam⟩ := h
            refine j_eqM (M' := [(h0, jO 6 [.ref h1, .ref x0, .ref g0, .ref h10, .ref y0, .ref h42, .int (iI fnd), .int (iI ask)]), (h1, jR E 2 4 ra), (b, jO 4 [.ref b1, .int (iI (n2 : Int))]), (b1, jA E 48 rf0), (y0, jO 0 [.ref y1, .ref y2, .ref y3, .ref y4, .ref y5, .ref y6, .ref y8, .int (iI (n2 : Int))]), (y1, jA E 24 pa2), (y2, jA E 24 de2), (y3, jA E 24 sz2), (y4, jA E 24 fi2), (y5, jA E 47 mt2), (y6, jO 4 [.ref y7, .int (iI md2)]), (y7, jA E 48 mi2), (y8, jO 3 [.ref y9, .ref y11, .ref y12, .ref y14, .int (iI tw2), .int (iI tb2)]), (y9, jO 4 [.ref y10, .int (iI ((2 * n2 - 1 : Nat) : Int))]), (y10, jA E 48 tf2), (y11, jA E 48 tsh2), (y12, jO 5 [.ref y13, .int (iI tmm2)]), (y13, jL E 64 tws2), (y14, jA E 6 tpl2)]) rfl ?_
            refine j_aload_0 92 dX6_tree_91 rfl ?_
            refine j_get 95 0 gf_X6_40 dX6_tree_92 rfl rfl ?_
            refine j_get 98 4 gf_X6_196 dX6_tree_95 rfl rfl ?_
            exact j_iret dX6_tree_98 rfl rfl ⟨pa2, de2, sz2, fi2, mt2, md2, mi2, tw2, tb2, tf2, tsh2, tmm2, tws2, tpl2, rfl, rfl, hfam⟩
          · omega
        · omega
    · omega
  · omega

set_option maxRecDepth 100000 in
set_option maxHeartbeats 4000000 in
theorem c_X6_asked (E : jD) (h0 : Nat) (h1 : Nat) (x0 : Nat) (g0 : Nat) (h10 : Nat) (y0 : Nat) (h42 : Nat) (fnd : Int) (ask : Int)   : MC E Y_X6_asked [.ref h0] [(h0, jO 6 [.ref h1, .ref x0, .ref g0, .ref h10, .ref y0, .ref h42, .int (iI fnd), .int (iI ask)])] (fun rr N0 => rr = some (.int (iI (ask))) ∧ N0 = [(h0, jO 6 [.ref h1, .ref x0, .ref g0, .ref h10, .ref y0, .ref h42, .int (iI fnd), .int (iI ask)])]) := by
  refine MC.of (by decide) rfl rfl ?_
  refine j_aload_0 1 dX6_asked_0 rfl ?_
  refine j_get 4 0 gf_X6_52 dX6_asked_1 rfl rfl ?_
  exact j_iret dX6_asked_4 rfl rfl ⟨rfl, rfl⟩

set_option maxRecDepth 100000 in
set_option maxHeartbeats 4000000 in
theorem c_X6_finding (E : jD) (h0 : Nat) (h1 : Nat) (x0 : Nat) (g0 : Nat) (h10 : Nat) (y0 : Nat) (h42 : Nat) (fnd : Int) (ask : Int)   : MC E Y_X6_finding [.ref h0] [(h0, jO 6 [.ref h1, .ref x0, .ref g0, .ref h10, .ref y0, .ref h42, .int (iI fnd), .int (iI ask)])] (fun rr N0 => rr = some (.int (iI (fnd))) ∧ N0 = [(h0, jO 6 [.ref h1, .ref x0, .ref g0, .ref h10, .ref y0, .ref h42, .int (iI fnd), .int (iI ask)])]) := by
  refine MC.of (by decide) rfl rfl ?_
  refine j_aload_0 1 dX6_finding_0 rfl ?_
  refine j_get 4 0 gf_X6_48 dX6_finding_1 rfl rfl ?_
  exact j_iret dX6_finding_4 rfl rfl ⟨rfl, rfl⟩

set_option maxRecDepth 100000 in
set_option maxHeartbeats 4000000 in
theorem c_X6_findings_bad (E : jD) (h0 : Nat) (h1 : Nat) (x0 : Nat) (g0 : Nat) (h10 : Nat) (y0 : Nat) (h42 : Nat) (fnd : Int) (ask : Int) (q : Int) (hq0 : jr q) (hb : q < 1 ∨ 4 < q) : MC E Y_X6_findings [.ref h0, .int (iI q)] [(h0, jO 6 [.ref h1, .ref x0, .ref g0, .ref h10, .ref y0, .ref h42, .int (iI fnd), .int (iI ask)])] (fun rr N0 => rr = some (.int (iI (-1))) ∧ N0 = [(h0, jO 6 [.ref h1, .ref x0, .ref g0, .ref h10, .ref y0, .ref h42, .int (iI fnd), .int (iI ask)])]) := by
  refine MC.of (by decide) rfl rfl ?_
  refine j_iload_1 1 dX6_findings_0 rfl ?_
  refine j_iconst 2 dX6_findings_1 ?_
  refine j_icmp_lt 10 5 dX6_findings_2 (by first | with_reducible exact iI_rng _ | with_reducible exact bI_r _ | exact ⟨by omega, by omega⟩) (by first | with_reducible exact iI_rng _ | with_reducible exact bI_r _ | exact ⟨by omega, by omega⟩) (fun q2 => ?_) (fun q2 => ?_)
  · refine j_iconst 11 dX6_findings_10 ?_
    refine j_goto 20 dX6_findings_11 ?_
    exact j_iret dX6_findings_20 rfl rfl ⟨rfl, rfl⟩
  · refine j_iload_1 6 dX6_findings_5 rfl ?_
    refine j_iconst 7 dX6_findings_6 ?_
    refine j_icmp_le 14 10 dX6_findings_7 (by first | with_reducible exact iI_rng _ | with_reducible exact bI_r _ | exact ⟨by omega, by omega⟩) (by first | with_reducible exact iI_rng _ | with_reducible exact bI_r _ | exact ⟨by omega, by omega⟩) (fun q7 => ?_) (fun q7 => ?_)
    · omega
    · refine j_iconst 11 dX6_findings_10 ?_
      refine j_goto 20 dX6_findings_11 ?_
      exact j_iret dX6_findings_20 rfl rfl ⟨rfl, rfl⟩

set_option maxRecDepth 100000 in
set_option maxHeartbeats 4000000 in
theorem c_X6_findings_ok (E : jD) (h0 : Nat) (h1 : Nat) (x0 : Nat) (g0 : Nat) (h10 : Nat) (y0 : Nat) (h42 : Nat) (fnd : Int) (ask : Int) (fm : Nat → Int) (q : Nat) (hb : 1 ≤ q ∧ q ≤ 4) : MC E Y_X6_findings [.ref h0, .int (iI (q : Int))] [(h0, jO 6 [.ref h1, .ref x0, .ref g0, .ref h10, .ref y0, .ref h42, .int (iI fnd), .int (iI ask)]), (h42, jA E 5 (aI fm))] (fun rr N0 => rr = some (.int (iI (fm q))) ∧ N0 = [(h0, jO 6 [.ref h1, .ref x0, .ref g0, .ref h10, .ref y0, .ref h42, .int (iI fnd), .int (iI ask)]), (h42, jA E 5 (aI fm))]) := by
  refine MC.of (by decide) rfl rfl ?_
  refine j_iload_1 1 dX6_findings_0 rfl ?_
  refine j_iconst 2 dX6_findings_1 ?_
  refine j_icmp_lt 10 5 dX6_findings_2 (by first | with_reducible exact iI_rng _ | with_reducible exact bI_r _ | exact ⟨by omega, by omega⟩) (by first | with_reducible exact iI_rng _ | with_reducible exact bI_r _ | exact ⟨by omega, by omega⟩) (fun q2 => ?_) (fun q2 => ?_)
  · omega
  · refine j_iload_1 6 dX6_findings_5 rfl ?_
    refine j_iconst 7 dX6_findings_6 ?_
    refine j_icmp_le 14 10 dX6_findings_7 (by first | with_reducible exact iI_rng _ | with_reducible exact bI_r _ | exact ⟨by omega, by omega⟩) (by first | with_reducible exact iI_rng _ | with_reducible exact bI_r _ | exact ⟨by omega, by omega⟩) (fun q7 => ?_) (fun q7 => ?_)
    · refine j_aload_0 15 dX6_findings_14 rfl ?_
      refine j_get 18 0 gf_X6_44 dX6_findings_15 rfl rfl ?_
      refine j_iload_1 19 dX6_findings_18 rfl ?_
      refine j_ialdw 20 1 _ (fm q) dX6_findings_19 rfl rfl rfl (by omega) rfl ?_
      exact j_iret dX6_findings_20 rfl rfl ⟨rfl, rfl⟩
    · omega

def rwF (nr : Nat → Int) : Nat → Nat
  | 0 => 0
  | k + 1 => rwF nr k + (if nr k < 0 then 0 else 1)
theorem rwF_le (nr : Nat → Int) : ∀ k, rwF nr k ≤ k
  | 0 => Nat.le_refl _
  | k + 1 => by
    have := rwF_le nr k
    unfold rwF
    split <;> omega

theorem rows_at (E : jD) (h0 h1 x0 g0 h10 y0 h42 : Nat) (fnd ask : Int) (ra : Nat → Option Nat) (bo bi : Nat → Nat) (nr : Nat → Int) : ∀ r, r < 4 → ([(h0, jO 6 [.ref h1, .ref x0, .ref g0, .ref h10, .ref y0, .ref h42, .int (iI fnd), .int (iI ask)]), (h1, jR E 2 4 ra), (bo 0, jO 4 [.ref (bi 0), .int (iI (nr 0))]), (bo 1, jO 4 [.ref (bi 1), .int (iI (nr 1))]), (bo 2, jO 4 [.ref (bi 2), .int (iI (nr 2))]), (bo 3, jO 4 [.ref (bi 3), .int (iI (nr 3))])] : va_W)[2 + r]? = some (bo r, jO 4 [.ref (bi r), .int (iI (nr r))]) := by
  intro r hr
  match r, hr with
  | 0, _ => rfl
  | 1, _ => rfl
  | 2, _ => rfl
  | 3, _ => rfl

set_option maxRecDepth 100000 in
set_option maxHeartbeats 4000000 in
theorem lp_rowsThere (E : jD) (h0 h1 x0 g0 h10 y0 h42 : Nat) (fnd ask : Int) (ra : Nat → Option Nat) (bo bi : Nat → Nat) (nr : Nat → Int) (hra : ∀ r, r < 4 → ra r = some (bo r)) (hnr : ∀ r, r < 4 → -1 ≤ nr r ∧ nr r ≤ 48) : ∀ (d : Nat) (k : Nat), 4 - k < d → (k ≤ 4) → J E Y_X6_rowsThere (jZm E Y_X6_rowsThere (fun rr N0 => rr = some (.int (iI ((rwF nr 4 : Nat)))) ∧ N0 = [(h0, jO 6 [.ref h1, .ref x0, .ref g0, .ref h10, .ref y0, .ref h42, .int (iI fnd), .int (iI ask)]), (h1, jR E 2 4 ra), (bo 0, jO 4 [.ref (bi 0), .int (iI (nr 0))]), (bo 1, jO 4 [.ref (bi 1), .int (iI (nr 1))]), (bo 2, jO 4 [.ref (bi 2), .int (iI (nr 2))]), (bo 3, jO 4 [.ref (bi 3), .int (iI (nr 3))])])) 0 0 4 [(0, .ref h0), (1, .int (iI ((rwF nr k : Nat) : Int))), (2, .int (iI (k : Int)))] [] [(h0, jO 6 [.ref h1, .ref x0, .ref g0, .ref h10, .ref y0, .ref h42, .int (iI fnd), .int (iI ask)]), (h1, jR E 2 4 ra), (bo 0, jO 4 [.ref (bi 0), .int (iI (nr 0))]), (bo 1, jO 4 [.ref (bi 1), .int (iI (nr 1))]), (bo 2, jO 4 [.ref (bi 2), .int (iI (nr 2))]), (bo 3, jO 4 [.ref (bi 3), .int (iI (nr 3))])] := by
  intro d
  induction d with
  | zero => intros; omega
  | succ d ih =>
    intro k hd hk
    have hrl := rwF_le nr k
    refine j_iload_2 5 dX6_rowsThere_4 rfl ?_
    refine j_iconst 6 dX6_rowsThere_5 ?_
    refine j_icmp_ge 30 9 dX6_rowsThere_6 (by first | with_reducible exact iI_rng _ | with_reducible exact bI_r _ | exact ⟨by omega, by omega⟩) (by first | with_reducible exact iI_rng _ | with_reducible exact bI_r _ | exact ⟨by omega, by omega⟩) (fun q6 => ?_) (fun q6 => ?_)
    · have e0 : k = 4 := by omega
      subst e0
      refine j_iload_1 31 dX6_rowsThere_30 rfl ?_
      exact j_iret dX6_rowsThere_31 rfl rfl ⟨rfl, rfl⟩
    · have hat := rows_at E h0 h1 x0 g0 h10 y0 h42 fnd ask ra bo bi nr k (by omega)
      have hk4 := hnr k (by omega)
      have hst : rwF nr (k + 1) = rwF nr k + (if nr k < 0 then 0 else 1) := rfl
      refine j_aload_0 10 dX6_rowsThere_9 rfl ?_
      refine j_get 13 0 gf_X6_11 dX6_rowsThere_10 rfl rfl ?_
      refine j_iload_2 14 dX6_rowsThere_13 rfl ?_
      refine j_aald2 15 1 _ (bo k) dX6_rowsThere_14 rfl rfl rfl (by omega) (hra k (by omega)) ?_
      refine j_callVi 18 Y_X4_isMissing [2 + k] [] (c_X4_isMissing E (bo k) (bi k) (nr k) (by exact ⟨by omega, by omega⟩)) m_X4_isMissing wml_X6_74 dX6_rowsThere_15 0 rfl rfl rfl rfl rfl rfl rfl (congrArg (fun x => [x]) hat) rfl rfl ?_
      refine j_bif_ne 24 21 dX6_rowsThere_18 (fun q18 => ?_) (fun q18 => ?_)
      · rw [if_pos q18, Nat.add_zero] at hst
        refine j_iinc 27 (lv' := [(0, _), (1, _), (2, _)]) dX6_rowsThere_24 rfl rfl ⟨rfl, rfl⟩ ?_
        refine j_goto 4 dX6_rowsThere_27 ?_
        have h := ih (k + 1) (by omega) (by omega)
        rw [hst] at h
        exact h
      · rw [if_neg q18] at hst
        refine j_iinc 24 (lv' := [(0, _), (1, _), (2, _)]) dX6_rowsThere_21 rfl rfl ⟨rfl, rfl⟩ ?_
        refine j_iinc 27 (lv' := [(0, _), (1, _), (2, _)]) dX6_rowsThere_24 rfl rfl ⟨rfl, rfl⟩ ?_
        refine j_goto 4 dX6_rowsThere_27 ?_
        have h := ih (k + 1) (by omega) (by omega)
        rw [hst] at h
        exact h

set_option maxRecDepth 100000 in
set_option maxHeartbeats 4000000 in
theorem c_X6_rowsThere (E : jD) (h0 h1 x0 g0 h10 y0 h42 : Nat) (fnd ask : Int) (ra : Nat → Option Nat) (bo bi : Nat → Nat) (nr : Nat → Int) (hra : ∀ r, r < 4 → ra r = some (bo r)) (hnr : ∀ r, r < 4 → -1 ≤ nr r ∧ nr r ≤ 48) : MC E Y_X6_rowsThere [.ref h0] [(h0, jO 6 [.ref h1, .ref x0, .ref g0, .ref h10, .ref y0, .ref h42, .int (iI fnd), .int (iI ask)]), (h1, jR E 2 4 ra), (bo 0, jO 4 [.ref (bi 0), .int (iI (nr 0))]), (bo 1, jO 4 [.ref (bi 1), .int (iI (nr 1))]), (bo 2, jO 4 [.ref (bi 2), .int (iI (nr 2))]), (bo 3, jO 4 [.ref (bi 3), .int (iI (nr 3))])] (fun rr N0 => rr = some (.int (iI ((rwF nr 4 : Nat)))) ∧ N0 = [(h0, jO 6 [.ref h1, .ref x0, .ref g0, .ref h10, .ref y0, .ref h42, .int (iI fnd), .int (iI ask)]), (h1, jR E 2 4 ra), (bo 0, jO 4 [.ref (bi 0), .int (iI (nr 0))]), (bo 1, jO 4 [.ref (bi 1), .int (iI (nr 1))]), (bo 2, jO 4 [.ref (bi 2), .int (iI (nr 2))]), (bo 3, jO 4 [.ref (bi 3), .int (iI (nr 3))])]) := by
  refine MC.of (by decide) rfl rfl ?_
  refine j_iconst 1 dX6_rowsThere_0 ?_
  refine j_istore_1 2 (lv' := [(0, _), (1, _)]) dX6_rowsThere_1 rfl ⟨rfl, rfl⟩ ?_
  refine j_iconst 3 dX6_rowsThere_2 ?_
  refine j_istore_2 4 (lv' := [(0, _), (1, _), (2, _)]) dX6_rowsThere_3 rfl ⟨rfl, rfl⟩ ?_
  exact lp_rowsThere E h0 h1 x0 g0 h10 y0 h42 fnd ask ra bo bi nr hra hnr 5 0 (by omega) (by omega)

set_option maxRecDepth 100000 in
set_option maxHeartbeats 4000000 in
theorem c_X6_count_0 (E : jD) (h0 : Nat) (h1 : Nat) (x0 : Nat) (g0 : Nat) (h10 : Nat) (y0 : Nat) (h42 : Nat) (x1 : Nat) (x2 : Nat) (x3 : Nat) (x4 : Nat) (x6 : Nat) (fnd : Int) (ask : Int) (wd : Int) (bl : Int) (n : Int)  (hn : -1 ≤ n ∧ n ≤ 48) : MC E Y_X6_count [.ref h0, .int (iI 0)] [(h0, jO 6 [.ref h1, .ref x0, .ref g0, .ref h10, .ref y0, .ref h42, .int (iI fnd), .int (iI ask)]), (x0, jO 3 [.ref x1, .ref x3, .ref x4, .ref x6, .int (iI wd), .int (iI bl)]), (x1, jO 4 [.ref x2, .int (iI n)])] (fun rr N0 => rr = some (.int (iI ((if n < 0 then 0 else n)))) ∧ N0 = [(h0, jO 6 [.ref h1, .ref x0, .ref g0, .ref h10, .ref y0, .ref h42, .int (iI fnd), .int (iI ask)]), (x0, jO 3 [.ref x1, .ref x3, .ref x4, .ref x6, .int (iI wd), .int (iI bl)]), (x1, jO 4 [.ref x2, .int (iI n)])]) := by
  refine MC.of (by decide) rfl rfl ?_
  refine j_iload_1 1 dX6_count_0 rfl ?_
  refine j_tabIn 56 dX6_count_1 ⟨by omega, by omega⟩ (by omega) (by omega) rfl rfl ?_
  refine j_aload_0 57 dX6_count_56 rfl ?_
  refine j_get 60 0 gf_X6_26 dX6_count_57 rfl rfl ?_
  refine j_callVi 63 Y_X3_isNone [1, 2] [] (c_X3_isNone E _ _ _ _ _ _ _ _ _ (by exact ⟨by omega, by omega⟩)) m_X3_isNone wml_X6_125 dX6_count_60 0 rfl rfl rfl rfl rfl rfl rfl rfl rfl rfl ?_
  refine j_bif_eq 70 66 dX6_count_63 (fun q63 => ?_) (fun q63 => ?_)
  · refine j_aload_0 71 dX6_count_70 rfl ?_
    refine j_get 74 0 gf_X6_26 dX6_count_71 rfl rfl ?_
    refine j_get 77 1 gf_X6_104 dX6_count_74 rfl rfl ?_
    refine j_get 80 2 gf_X6_78 dX6_count_77 rfl rfl ?_
    exact j_iret dX6_count_80 rfl rfl ⟨congrArg (fun z => some (Value.int (iI z))) (by first | exact (if_pos (by omega)).symm | exact (if_neg (by omega)).symm), rfl⟩
  · refine j_iconst 67 dX6_count_66 ?_
    refine j_goto 80 dX6_count_67 ?_
    exact j_iret dX6_count_80 rfl rfl ⟨congrArg (fun z => some (Value.int (iI z))) (by first | exact (if_pos (by omega)).symm | exact (if_neg (by omega)).symm), rfl⟩

set_option maxRecDepth 100000 in
set_option maxHeartbeats 4000000 in
theorem c_X6_count_1 (E : jD) (h0 : Nat) (h1 : Nat) (x0 : Nat) (g0 : Nat) (h10 : Nat) (y0 : Nat) (h42 : Nat) (x1 : Nat) (x3 : Nat) (x4 : Nat) (x6 : Nat) (fnd : Int) (ask : Int) (wd : Int) (bl : Int)   : MC E Y_X6_count [.ref h0, .int (iI 1)] [(h0, jO 6 [.ref h1, .ref x0, .ref g0, .ref h10, .ref y0, .ref h42, .int (iI fnd), .int (iI ask)]), (x0, jO 3 [.ref x1, .ref x3, .ref x4, .ref x6, .int (iI wd), .int (iI bl)])] (fun rr N0 => rr = some (.int (iI (wd))) ∧ N0 = [(h0, jO 6 [.ref h1, .ref x0, .ref g0, .ref h10, .ref y0, .ref h42, .int (iI fnd), .int (iI ask)]), (x0, jO 3 [.ref x1, .ref x3, .ref x4, .ref x6, .int (iI wd), .int (iI bl)])]) := by
  refine MC.of (by decide) rfl rfl ?_
  refine j_iload_1 1 dX6_count_0 rfl ?_
  refine j_tabIn 81 dX6_count_1 ⟨by omega, by omega⟩ (by omega) (by omega) rfl rfl ?_
  refine j_aload_0 82 dX6_count_81 rfl ?_
  refine j_get 85 0 gf_X6_26 dX6_count_82 rfl rfl ?_
  refine j_get 88 1 gf_X6_133 dX6_count_85 rfl rfl ?_
  exact j_iret dX6_count_88 rfl rfl ⟨rfl, rfl⟩

set_option maxRecDepth 100000 in
set_option maxHeartbeats 4000000 in
theorem c_X6_count_2 (E : jD) (h0 : Nat) (h1 : Nat) (x0 : Nat) (g0 : Nat) (h10 : Nat) (y0 : Nat) (h42 : Nat) (x1 : Nat) (x3 : Nat) (x4 : Nat) (x6 : Nat) (fnd : Int) (ask : Int) (wd : Int) (bl : Int)   : MC E Y_X6_count [.ref h0, .int (iI 2)] [(h0, jO 6 [.ref h1, .ref x0, .ref g0, .ref h10, .ref y0, .ref h42, .int (iI fnd), .int (iI ask)]), (x0, jO 3 [.ref x1, .ref x3, .ref x4, .ref x6, .int (iI wd), .int (iI bl)])] (fun rr N0 => rr = some (.int (iI (bl))) ∧ N0 = [(h0, jO 6 [.ref h1, .ref x0, .ref g0, .ref h10, .ref y0, .ref h42, .int (iI fnd), .int (iI ask)]), (x0, jO 3 [.ref x1, .ref x3, .ref x4, .ref x6, .int (iI wd), .int (iI bl)])]) := by
  refine MC.of (by decide) rfl rfl ?_
  refine j_iload_1 1 dX6_count_0 rfl ?_
  refine j_tabIn 89 dX6_count_1 ⟨by omega, by omega⟩ (by omega) (by omega) rfl rfl ?_
  refine j_aload_0 90 dX6_count_89 rfl ?_
  refine j_get 93 0 gf_X6_26 dX6_count_90 rfl rfl ?_
  refine j_get 96 1 gf_X6_98 dX6_count_93 rfl rfl ?_
  exact j_iret dX6_count_96 rfl rfl ⟨rfl, rfl⟩

set_option maxRecDepth 100000 in
set_option maxHeartbeats 4000000 in
theorem c_X6_count_3 (E : jD) (h0 : Nat) (h1 : Nat) (x0 : Nat) (g0 : Nat) (h10 : Nat) (y0 : Nat) (h42 : Nat) (x1 : Nat) (x3 : Nat) (x4 : Nat) (x6 : Nat) (fnd : Int) (ask : Int) (wd : Int) (sh : Nat → Int32) (nb : Nat) (hnb : nb ≤ 48) : MC E Y_X6_count [.ref h0, .int (iI 3)] [(h0, jO 6 [.ref h1, .ref x0, .ref g0, .ref h10, .ref y0, .ref h42, .int (iI fnd), .int (iI ask)]), (x0, jO 3 [.ref x1, .ref x3, .ref x4, .ref x6, .int (iI wd), .int (iI ((nb : Nat) : Int))]), (x3, jA E 48 sh)] (fun rr N0 => rr = some (.int (iI ((unF (tI sh) nb : Nat)))) ∧ N0 = [(h0, jO 6 [.ref h1, .ref x0, .ref g0, .ref h10, .ref y0, .ref h42, .int (iI fnd), .int (iI ask)]), (x0, jO 3 [.ref x1, .ref x3, .ref x4, .ref x6, .int (iI wd), .int (iI ((nb : Nat) : Int))]), (x3, jA E 48 sh)]) := by
  refine MC.of (by decide) rfl rfl ?_
  refine j_iload_1 1 dX6_count_0 rfl ?_
  refine j_tabIn 97 dX6_count_1 ⟨by omega, by omega⟩ (by omega) (by omega) rfl rfl ?_
  refine j_aload_0 98 dX6_count_97 rfl ?_
  refine j_get 101 0 gf_X6_26 dX6_count_98 rfl rfl ?_
  refine j_callVi 104 Y_X3_unlikeShapes [1, 2] [] (c_X3_unlikeShapes E _ _ _ _ _ _ _ _ hnb) m_X3_unlikeShapes wml_X6_220 dX6_count_101 0 rfl rfl rfl rfl rfl rfl rfl rfl rfl rfl ?_
  exact j_iret dX6_count_104 rfl rfl ⟨rfl, rfl⟩

set_option maxRecDepth 100000 in
set_option maxHeartbeats 4000000 in
theorem c_X6_count_4 (E : jD) (h0 : Nat) (h1 : Nat) (x0 : Nat) (g0 : Nat) (h10 : Nat) (y0 : Nat) (h42 : Nat) (x1 : Nat) (x3 : Nat) (x4 : Nat) (x6 : Nat) (fnd : Int) (ask : Int) (wd : Int) (nb : Nat) (hnb : nb ≤ 48) : MC E Y_X6_count [.ref h0, .int (iI 4)] [(h0, jO 6 [.ref h1, .ref x0, .ref g0, .ref h10, .ref y0, .ref h42, .int (iI fnd), .int (iI ask)]), (x0, jO 3 [.ref x1, .ref x3, .ref x4, .ref x6, .int (iI wd), .int (iI ((nb : Nat) : Int))])] (fun rr N0 => rr = some (.int (iI ((lvF nb 7 1 : Nat)))) ∧ N0 = [(h0, jO 6 [.ref h1, .ref x0, .ref g0, .ref h10, .ref y0, .ref h42, .int (iI fnd), .int (iI ask)]), (x0, jO 3 [.ref x1, .ref x3, .ref x4, .ref x6, .int (iI wd), .int (iI ((nb : Nat) : Int))])]) := by
  refine MC.of (by decide) rfl rfl ?_
  refine j_iload_1 1 dX6_count_0 rfl ?_
  refine j_tabIn 105 dX6_count_1 ⟨by omega, by omega⟩ (by omega) (by omega) rfl rfl ?_
  refine j_aload_0 106 dX6_count_105 rfl ?_
  refine j_get 109 0 gf_X6_26 dX6_count_106 rfl rfl ?_
  refine j_callVi 112 Y_X3_levels [1] [] (c_X3_levels E _ _ _ _ _ _ _ hnb) m_X3_levels wml_X6_224 dX6_count_109 0 rfl rfl rfl rfl rfl rfl rfl rfl rfl rfl ?_
  exact j_iret dX6_count_112 rfl rfl ⟨rfl, rfl⟩

set_option maxRecDepth 100000 in
set_option maxHeartbeats 4000000 in
theorem c_X6_count_5 (E : jD) (h0 : Nat) (h1 : Nat) (x0 : Nat) (g0 : Nat) (h10 : Nat) (y0 : Nat) (h42 : Nat) (x1 : Nat) (x3 : Nat) (x4 : Nat) (x5 : Nat) (x6 : Nat) (fnd : Int) (ask : Int) (wd : Int) (bl : Int) (mm : Int)   : MC E Y_X6_count [.ref h0, .int (iI 5)] [(h0, jO 6 [.ref h1, .ref x0, .ref g0, .ref h10, .ref y0, .ref h42, .int (iI fnd), .int (iI ask)]), (x0, jO 3 [.ref x1, .ref x3, .ref x4, .ref x6, .int (iI wd), .int (iI bl)]), (x4, jO 5 [.ref x5, .int (iI mm)])] (fun rr N0 => rr = some (.int (iI (mm))) ∧ N0 = [(h0, jO 6 [.ref h1, .ref x0, .ref g0, .ref h10, .ref y0, .ref h42, .int (iI fnd), .int (iI ask)]), (x0, jO 3 [.ref x1, .ref x3, .ref x4, .ref x6, .int (iI wd), .int (iI bl)]), (x4, jO 5 [.ref x5, .int (iI mm)])]) := by
  refine MC.of (by decide) rfl rfl ?_
  refine j_iload_1 1 dX6_count_0 rfl ?_
  refine j_tabIn 113 dX6_count_1 ⟨by omega, by omega⟩ (by omega) (by omega) rfl rfl ?_
  refine j_aload_0 114 dX6_count_113 rfl ?_
  refine j_get 117 0 gf_X6_26 dX6_count_114 rfl rfl ?_
  refine j_get 120 1 gf_X6_140 dX6_count_117 rfl rfl ?_
  refine j_get 123 2 gf_X6_227 dX6_count_120 rfl rfl ?_
  exact j_iret dX6_count_123 rfl rfl ⟨rfl, rfl⟩

set_option maxRecDepth 100000 in
set_option maxHeartbeats 4000000 in
theorem c_X6_count_6 (E : jD) (h0 : Nat) (h1 : Nat) (x0 : Nat) (g0 : Nat) (h10 : Nat) (y0 : Nat) (h42 : Nat) (x1 : Nat) (x3 : Nat) (x4 : Nat) (x6 : Nat) (fnd : Int) (ask : Int) (sh : Nat → Int32) (nb wd : Nat) (hnb : nb ≤ 48) : MC E Y_X6_count [.ref h0, .int (iI 6)] [(h0, jO 6 [.ref h1, .ref x0, .ref g0, .ref h10, .ref y0, .ref h42, .int (iI fnd), .int (iI ask)]), (x0, jO 3 [.ref x1, .ref x3, .ref x4, .ref x6, .int (iI (wd : Int)), .int (iI ((nb : Nat) : Int))]), (x3, jA E 48 sh)] (fun rr N0 => rr = some (.int (iI (biF (tI sh) wd nb))) ∧ N0 = [(h0, jO 6 [.ref h1, .ref x0, .ref g0, .ref h10, .ref y0, .ref h42, .int (iI fnd), .int (iI ask)]), (x0, jO 3 [.ref x1, .ref x3, .ref x4, .ref x6, .int (iI (wd : Int)), .int (iI ((nb : Nat) : Int))]), (x3, jA E 48 sh)]) := by
  refine MC.of (by decide) rfl rfl ?_
  refine j_iload_1 1 dX6_count_0 rfl ?_
  refine j_tabIn 124 dX6_count_1 ⟨by omega, by omega⟩ (by omega) (by omega) rfl rfl ?_
  refine j_aload_0 125 dX6_count_124 rfl ?_
  refine j_get 128 0 gf_X6_26 dX6_count_125 rfl rfl ?_
  refine j_callVi 131 Y_X3_bits [1, 2] [] (c_X3_bits E _ _ _ _ _ _ _ _ hnb) m_X3_bits wml_X6_228 dX6_count_128 0 rfl rfl rfl rfl rfl rfl rfl rfl rfl rfl ?_
  exact j_iret dX6_count_131 rfl rfl ⟨rfl, rfl⟩

set_option maxRecDepth 100000 in
set_option maxHeartbeats 4000000 in
theorem c_X6_count_7 (E : jD) (h0 : Nat) (h1 : Nat) (x0 : Nat) (g0 : Nat) (h10 : Nat) (y0 : Nat) (h42 : Nat) (g1 : Nat) (g2 : Nat) (fnd : Int) (ask : Int) (um : Int)   : MC E Y_X6_count [.ref h0, .int (iI 7)] [(h0, jO 6 [.ref h1, .ref x0, .ref g0, .ref h10, .ref y0, .ref h42, .int (iI fnd), .int (iI ask)]), (g0, jO 1 [.ref g1, .ref g2, .int (iI um)])] (fun rr N0 => rr = some (.int (iI (um))) ∧ N0 = [(h0, jO 6 [.ref h1, .ref x0, .ref g0, .ref h10, .ref y0, .ref h42, .int (iI fnd), .int (iI ask)]), (g0, jO 1 [.ref g1, .ref g2, .int (iI um)])]) := by
  refine MC.of (by decide) rfl rfl ?_
  refine j_iload_1 1 dX6_count_0 rfl ?_
  refine j_tabIn 132 dX6_count_1 ⟨by omega, by omega⟩ (by omega) (by omega) rfl rfl ?_
  refine j_aload_0 133 dX6_count_132 rfl ?_
  refine j_get 136 0 gf_X6_33 dX6_count_133 rfl rfl ?_
  refine j_get 139 1 gf_X6_115 dX6_count_136 rfl rfl ?_
  exact j_iret dX6_count_139 rfl rfl ⟨rfl, rfl⟩

set_option maxRecDepth 100000 in
set_option maxHeartbeats 4000000 in
theorem c_X6_count_8 (E : jD) (h0 h1 x0 g0 h10 y0 h42 : Nat) (fnd ask : Int) (ra : Nat → Option Nat) (bo bi : Nat → Nat) (nr : Nat → Int) (hra : ∀ r, r < 4 → ra r = some (bo r)) (hnr : ∀ r, r < 4 → -1 ≤ nr r ∧ nr r ≤ 48) : MC E Y_X6_count [.ref h0, .int (iI 8)] [(h0, jO 6 [.ref h1, .ref x0, .ref g0, .ref h10, .ref y0, .ref h42, .int (iI fnd), .int (iI ask)]), (h1, jR E 2 4 ra), (bo 0, jO 4 [.ref (bi 0), .int (iI (nr 0))]), (bo 1, jO 4 [.ref (bi 1), .int (iI (nr 1))]), (bo 2, jO 4 [.ref (bi 2), .int (iI (nr 2))]), (bo 3, jO 4 [.ref (bi 3), .int (iI (nr 3))])] (fun rr N0 => rr = some (.int (iI ((rwF nr 4 : Nat)))) ∧ N0 = [(h0, jO 6 [.ref h1, .ref x0, .ref g0, .ref h10, .ref y0, .ref h42, .int (iI fnd), .int (iI ask)]), (h1, jR E 2 4 ra), (bo 0, jO 4 [.ref (bi 0), .int (iI (nr 0))]), (bo 1, jO 4 [.ref (bi 1), .int (iI (nr 1))]), (bo 2, jO 4 [.ref (bi 2), .int (iI (nr 2))]), (bo 3, jO 4 [.ref (bi 3), .int (iI (nr 3))])]) := by
  refine MC.of (by decide) rfl rfl ?_
  refine j_iload_1 1 dX6_count_0 rfl ?_
  refine j_tabIn 140 dX6_count_1 ⟨by omega, by omega⟩ (by omega) (by omega) rfl rfl ?_
  refine j_aload_0 141 dX6_count_140 rfl ?_
  refine j_callVi 144 Y_X6_rowsThere [0, 1, 2, 3, 4, 5] [] (c_X6_rowsThere E h0 h1 x0 g0 h10 y0 h42 fnd ask ra bo bi nr hra hnr) m_X6_rowsThere wml_X6_231 dX6_count_141 0 rfl rfl rfl rfl rfl rfl rfl rfl rfl rfl ?_
  exact j_iret dX6_count_144 rfl rfl ⟨rfl, rfl⟩

set_option maxRecDepth 100000 in
set_option maxHeartbeats 4000000 in
theorem c_X6_count_9 (E : jD) (h0 : Nat) (h1 : Nat) (x0 : Nat) (g0 : Nat) (h10 : Nat) (y0 : Nat) (h42 : Nat) (y1 : Nat) (y2 : Nat) (y3 : Nat) (y4 : Nat) (y5 : Nat) (y6 : Nat) (y8 : Nat) (fnd : Int) (ask : Int) (nd : Int)   : MC E Y_X6_count [.ref h0, .int (iI 9)] [(h0, jO 6 [.ref h1, .ref x0, .ref g0, .ref h10, .ref y0, .ref h42, .int (iI fnd), .int (iI ask)]), (y0, jO 0 [.ref y1, .ref y2, .ref y3, .ref y4, .ref y5, .ref y6, .ref y8, .int (iI nd)])] (fun rr N0 => rr = some (.int (iI (nd))) ∧ N0 = [(h0, jO 6 [.ref h1, .ref x0, .ref g0, .ref h10, .ref y0, .ref h42, .int (iI fnd), .int (iI ask)]), (y0, jO 0 [.ref y1, .ref y2, .ref y3, .ref y4, .ref y5, .ref y6, .ref y8, .int (iI nd)])]) := by
  refine MC.of (by decide) rfl rfl ?_
  refine j_iload_1 1 dX6_count_0 rfl ?_
  refine j_tabIn 145 dX6_count_1 ⟨by omega, by omega⟩ (by omega) (by omega) rfl rfl ?_
  refine j_aload_0 146 dX6_count_145 rfl ?_
  refine j_get 149 0 gf_X6_40 dX6_count_146 rfl rfl ?_
  refine j_get 152 1 gf_X6_196 dX6_count_149 rfl rfl ?_
  exact j_iret dX6_count_152 rfl rfl ⟨rfl, rfl⟩

set_option maxRecDepth 100000 in
set_option maxHeartbeats 4000000 in
theorem c_X6_count_bad (E : jD) (h0 : Nat) (h1 : Nat) (x0 : Nat) (g0 : Nat) (h10 : Nat) (y0 : Nat) (h42 : Nat) (fnd : Int) (ask : Int) (q : Int) (hq0 : jr q) (hb : q < 0 ∨ 9 < q) : MC E Y_X6_count [.ref h0, .int (iI q)] [(h0, jO 6 [.ref h1, .ref x0, .ref g0, .ref h10, .ref y0, .ref h42, .int (iI fnd), .int (iI ask)])] (fun rr N0 => rr = some (.int (iI (-1))) ∧ N0 = [(h0, jO 6 [.ref h1, .ref x0, .ref g0, .ref h10, .ref y0, .ref h42, .int (iI fnd), .int (iI ask)])]) := by
  refine MC.of (by decide) rfl rfl ?_
  refine j_iload_1 1 dX6_count_0 rfl ?_
  refine j_tabOut 153 dX6_count_1 hq0 (by omega) rfl ?_
  refine j_iconst 154 dX6_count_153 ?_
  exact j_iret dX6_count_154 rfl rfl ⟨rfl, rfl⟩

def dgc (v : Nat → Int) : Nat → Int64
  | 0 => 17
  | k + 1 => 31 * dgc v k + (iI (v k)).toInt64
/-- rows: size, then ints -/
def dgr (h : Int64) (nr : Nat → Int) (rr0 : Nat → Nat → Int32) : Nat → Int64
  | 0 => h
  | k + 1 => dgF (31 * dgr h nr rr0 k + (iI (nr k)).toInt64) (rr0 k) (nr k).toNat

theorem dig_row (E : jD) (h0 h1 x0 g0 h10 y0 h42 x1 x2 x3 x4 x6 : Nat) (fnd ask : Int) (ra : Nat → Option Nat) (bo bi : Nat → Nat) (nr : Nat → Int) (rr0 : Nat → Nat → Int32) (wd : Int) (nb : Nat) (n : Int) (f sh : Nat → Int32) (M2 : va_W) (v : Nat → Int) : ∀ r, r < 4 → ([(h0, jO 6 [.ref h1, .ref x0, .ref g0, .ref h10, .ref y0, .ref h42, .int (iI fnd), .int (iI ask)]), (h1, jR E 2 4 ra), (bo 0, jO 4 [.ref (bi 0), .int (iI (nr 0))]), (bo 1, jO 4 [.ref (bi 1), .int (iI (nr 1))]), (bo 2, jO 4 [.ref (bi 2), .int (iI (nr 2))]), (bo 3, jO 4 [.ref (bi 3), .int (iI (nr 3))]), (bi 0, jA E 48 (rr0 0)), (bi 1, jA E 48 (rr0 1)), (bi 2, jA E 48 (rr0 2)), (bi 3, jA E 48 (rr0 3)), (x0, jO 3 [.ref x1, .ref x3, .ref x4, .ref x6, .int (iI wd), .int (iI ((nb : Nat) : Int))]), (x1, jO 4 [.ref x2, .int (iI n)]), (x2, jA E 48 f), (x3, jA E 48 sh)] ++ M2)[2 + r]? = some (bo r, jO 4 [.ref (bi r), .int (iI (nr r))]) ∧ ([(h0, jO 6 [.ref h1, .ref x0, .ref g0, .ref h10, .ref y0, .ref h42, .int (iI fnd), .int (iI ask)]), (h1, jR E 2 4 ra), (bo 0, jO 4 [.ref (bi 0), .int (iI (nr 0))]), (bo 1, jO 4 [.ref (bi 1), .int (iI (nr 1))]), (bo 2, jO 4 [.ref (bi 2), .int (iI (nr 2))]), (bo 3, jO 4 [.ref (bi 3), .int (iI (nr 3))]), (bi 0, jA E 48 (rr0 0)), (bi 1, jA E 48 (rr0 1)), (bi 2, jA E 48 (rr0 2)), (bi 3, jA E 48 (rr0 3)), (x0, jO 3 [.ref x1, .ref x3, .ref x4, .ref x6, .int (iI wd), .int (iI ((nb : Nat) : Int))]), (x1, jO 4 [.ref x2, .int (iI n)]), (x2, jA E 48 f), (x3, jA E 48 sh)] ++ M2)[6 + r]? = some (bi r, jA E 48 (rr0 r)) := by
  intro r hr
  match r, hr with
  | 0, _ => exact ⟨rfl, rfl⟩
  | 1, _ => exact ⟨rfl, rfl⟩
  | 2, _ => exact ⟨rfl, rfl⟩
  | 3, _ => exact ⟨rfl, rfl⟩

theorem dig_on (E : jD) (a b : Nat) (N : Int) (f : Nat → Int32) (h : Int64) (hN : N = -1 ∨ (0 ≤ N ∧ N ≤ 48)) : MC E Y_X4_digestOn [.ref a, .long h] [(a, jO 4 [.ref b, .int (iI N)]), (b, jA E 48 f)] (fun rr N0 => rr = some (.long (dgF h f N.toNat)) ∧ N0 = [(a, jO 4 [.ref b, .int (iI N)]), (b, jA E 48 f)]) := by
  rcases hN with rfl | hN
  · exact c_X4_digestOn_m E a b f h
  · obtain ⟨n, rfl⟩ : ∃ n : Nat, N = (n : Int) := ⟨N.toNat, by omega⟩
    exact c_X4_digestOn E a b n f h (by omega)

set_option maxRecDepth 100000 in
set_option maxHeartbeats 4000000 in
theorem lp_digest3 (E : jD) (h0 h1 x0 g0 h10 y0 h42 x1 x2 x3 x4 x6 : Nat) (fnd ask : Int) (ra : Nat → Option Nat) (bo bi : Nat → Nat) (nr : Nat → Int) (rr0 : Nat → Nat → Int32) (wd : Int) (nb : Nat) (n : Int) (f sh : Nat → Int32) (M2 : va_W) (v : Nat → Int) (hra : ∀ r, r < 4 → ra r = some (bo r)) (hnr : ∀ r, r < 4 → -1 ≤ nr r ∧ nr r ≤ 48) (hn : n = -1 ∨ (0 ≤ n ∧ n ≤ 48)) (hnb : nb ≤ 48) (hcnt : ∀ k, k < 10 → MC E Y_X6_count [.ref h0, .int (iI ((k : Nat) : Int))] ([(h0, jO 6 [.ref h1, .ref x0, .ref g0, .ref h10, .ref y0, .ref h42, .int (iI fnd), .int (iI ask)]), (h1, jR E 2 4 ra), (bo 0, jO 4 [.ref (bi 0), .int (iI (nr 0))]), (bo 1, jO 4 [.ref (bi 1), .int (iI (nr 1))]), (bo 2, jO 4 [.ref (bi 2), .int (iI (nr 2))]), (bo 3, jO 4 [.ref (bi 3), .int (iI (nr 3))]), (bi 0, jA E 48 (rr0 0)), (bi 1, jA E 48 (rr0 1)), (bi 2, jA E 48 (rr0 2)), (bi 3, jA E 48 (rr0 3)), (x0, jO 3 [.ref x1, .ref x3, .ref x4, .ref x6, .int (iI wd), .int (iI ((nb : Nat) : Int))]), (x1, jO 4 [.ref x2, .int (iI n)]), (x2, jA E 48 f), (x3, jA E 48 sh)] ++ M2) (fun rr N0 => rr = some (.int (iI (v k))) ∧ N0 = ([(h0, jO 6 [.ref h1, .ref x0, .ref g0, .ref h10, .ref y0, .ref h42, .int (iI fnd), .int (iI ask)]), (h1, jR E 2 4 ra), (bo 0, jO 4 [.ref (bi 0), .int (iI (nr 0))]), (bo 1, jO 4 [.ref (bi 1), .int (iI (nr 1))]), (bo 2, jO 4 [.ref (bi 2), .int (iI (nr 2))]), (bo 3, jO 4 [.ref (bi 3), .int (iI (nr 3))]), (bi 0, jA E 48 (rr0 0)), (bi 1, jA E 48 (rr0 1)), (bi 2, jA E 48 (rr0 2)), (bi 3, jA E 48 (rr0 3)), (x0, jO 3 [.ref x1, .ref x3, .ref x4, .ref x6, .int (iI wd), .int (iI ((nb : Nat) : Int))]), (x1, jO 4 [.ref x2, .int (iI n)]), (x2, jA E 48 f), (x3, jA E 48 sh)] ++ M2))) : ∀ (d : Nat) (k : Nat), 4 - k < d → (k ≤ 4) → J E Y_X6_digest (jZm E Y_X6_digest (fun rr N0 => rr = some (.long (dgr (dgF (dgF (dgc v 10) f n.toNat) sh nb) nr rr0 4)) ∧ N0 = ([(h0, jO 6 [.ref h1, .ref x0, .ref g0, .ref h10, .ref y0, .ref h42, .int (iI fnd), .int (iI ask)]), (h1, jR E 2 4 ra), (bo 0, jO 4 [.ref (bi 0), .int (iI (nr 0))]), (bo 1, jO 4 [.ref (bi 1), .int (iI (nr 1))]), (bo 2, jO 4 [.ref (bi 2), .int (iI (nr 2))]), (bo 3, jO 4 [.ref (bi 3), .int (iI (nr 3))]), (bi 0, jA E 48 (rr0 0)), (bi 1, jA E 48 (rr0 1)), (bi 2, jA E 48 (rr0 2)), (bi 3, jA E 48 (rr0 3)), (x0, jO 3 [.ref x1, .ref x3, .ref x4, .ref x6, .int (iI wd), .int (iI ((nb : Nat) : Int))]), (x1, jO 4 [.ref x2, .int (iI n)]), (x2, jA E 48 f), (x3, jA E 48 sh)] ++ M2))) 0 0 81 [(0, .ref h0), (1, .long (dgr (dgF (dgF (dgc v 10) f n.toNat) sh nb) nr rr0 k)), (3, .int (iI (k : Int)))] [] ([(h0, jO 6 [.ref h1, .ref x0, .ref g0, .ref h10, .ref y0, .ref h42, .int (iI fnd), .int (iI ask)]), (h1, jR E 2 4 ra), (bo 0, jO 4 [.ref (bi 0), .int (iI (nr 0))]), (bo 1, jO 4 [.ref (bi 1), .int (iI (nr 1))]), (bo 2, jO 4 [.ref (bi 2), .int (iI (nr 2))]), (bo 3, jO 4 [.ref (bi 3), .int (iI (nr 3))]), (bi 0, jA E 48 (rr0 0)), (bi 1, jA E 48 (rr0 1)), (bi 2, jA E 48 (rr0 2)), (bi 3, jA E 48 (rr0 3)), (x0, jO 3 [.ref x1, .ref x3, .ref x4, .ref x6, .int (iI wd), .int (iI ((nb : Nat) : Int))]), (x1, jO 4 [.ref x2, .int (iI n)]), (x2, jA E 48 f), (x3, jA E 48 sh)] ++ M2) := by
  intro d
  induction d with
  | zero => intros; omega
  | succ d ih =>
    intro k hd hk
    refine j_iload_3 82 dX6_digest_81 rfl ?_
    refine j_iconst 83 dX6_digest_82 ?_
    refine j_icmp_ge 120 86 dX6_digest_83 (by first | with_reducible exact iI_rng _ | with_reducible exact bI_r _ | exact ⟨by omega, by omega⟩) (by first | with_reducible exact iI_rng _ | with_reducible exact bI_r _ | exact ⟨by omega, by omega⟩) (fun q83 => ?_) (fun q83 => ?_)
    · have e0 : k = 4 := by omega
      subst e0
      refine j_lload_1 121 dX6_digest_120 rfl ?_
      exact j_lret dX6_digest_121 rfl rfl ⟨rfl, rfl⟩
    · obtain ⟨hat, hat2⟩ := dig_row E h0 h1 x0 g0 h10 y0 h42 x1 x2 x3 x4 x6 fnd ask ra bo bi nr rr0 wd nb n f sh M2 v k (by omega)
      have hk4 := hnr k (by omega)
      refine j_ldc2 89 wk_X6_236 dX6_digest_86 ?_
      refine j_lload_1 90 dX6_digest_89 rfl ?_
      refine j_lmul 91 dX6_digest_90 ?_
      refine j_aload_0 92 dX6_digest_91 rfl ?_
      refine j_get 95 0 gf_X6_11 dX6_digest_92 rfl rfl ?_
      refine j_iload_3 96 dX6_digest_95 rfl ?_
      refine j_aald2 97 1 _ (bo k) dX6_digest_96 rfl rfl rfl (by omega) (hra k (by omega)) ?_
      refine j_get 100 (2 + k) gf_X6_78 dX6_digest_97 hat rfl ?_
      refine j_i2l 101 dX6_digest_100 ?_
      refine j_ladd 102 dX6_digest_101 ?_
      refine j_lstore_1 103 (lv' := [(0, _), (1, _), (3, _)]) dX6_digest_102 rfl ⟨rfl, rfl, rfl⟩ ?_
      refine j_aload_0 104 dX6_digest_103 rfl ?_
      refine j_get 107 0 gf_X6_11 dX6_digest_104 rfl rfl ?_
      refine j_iload_3 108 dX6_digest_107 rfl ?_
      refine j_aald2 109 1 _ (bo k) dX6_digest_108 rfl rfl rfl (by omega) (hra k (by omega)) ?_
      refine j_lload_1 110 dX6_digest_109 rfl ?_
      refine j_callVl 113 Y_X4_digestOn [2 + k, 6 + k] [_] (dig_on E (bo k) (bi k) (nr k) (rr0 k) _ (by omega)) m_X4_digestOn wml_X6_241 dX6_digest_110 0 rfl rfl rfl rfl rfl rfl rfl (congr (congrArg (fun x y => [x, y]) hat) hat2) (by simp [va_nd]) rfl ?_
      refine j_lstore_1 114 (lv' := [(0, _), (1, _), (3, _)]) dX6_digest_113 rfl ⟨rfl, rfl, rfl⟩ ?_
      refine j_iinc 117 (lv' := [(0, _), (1, _), (3, _)]) dX6_digest_114 rfl rfl ⟨rfl, rfl⟩ ?_
      refine j_goto 81 dX6_digest_117 ?_
      exact ih (k + 1) (by omega) (by omega)

set_option maxRecDepth 100000 in
set_option maxHeartbeats 4000000 in
theorem lp_digest2 (E : jD) (h0 h1 x0 g0 h10 y0 h42 x1 x2 x3 x4 x6 : Nat) (fnd ask : Int) (ra : Nat → Option Nat) (bo bi : Nat → Nat) (nr : Nat → Int) (rr0 : Nat → Nat → Int32) (wd : Int) (nb : Nat) (n : Int) (f sh : Nat → Int32) (M2 : va_W) (v : Nat → Int) (hra : ∀ r, r < 4 → ra r = some (bo r)) (hnr : ∀ r, r < 4 → -1 ≤ nr r ∧ nr r ≤ 48) (hn : n = -1 ∨ (0 ≤ n ∧ n ≤ 48)) (hnb : nb ≤ 48) (hcnt : ∀ k, k < 10 → MC E Y_X6_count [.ref h0, .int (iI ((k : Nat) : Int))] ([(h0, jO 6 [.ref h1, .ref x0, .ref g0, .ref h10, .ref y0, .ref h42, .int (iI fnd), .int (iI ask)]), (h1, jR E 2 4 ra), (bo 0, jO 4 [.ref (bi 0), .int (iI (nr 0))]), (bo 1, jO 4 [.ref (bi 1), .int (iI (nr 1))]), (bo 2, jO 4 [.ref (bi 2), .int (iI (nr 2))]), (bo 3, jO 4 [.ref (bi 3), .int (iI (nr 3))]), (bi 0, jA E 48 (rr0 0)), (bi 1, jA E 48 (rr0 1)), (bi 2, jA E 48 (rr0 2)), (bi 3, jA E 48 (rr0 3)), (x0, jO 3 [.ref x1, .ref x3, .ref x4, .ref x6, .int (iI wd), .int (iI ((nb : Nat) : Int))]), (x1, jO 4 [.ref x2, .int (iI n)]), (x2, jA E 48 f), (x3, jA E 48 sh)] ++ M2) (fun rr N0 => rr = some (.int (iI (v k))) ∧ N0 = ([(h0, jO 6 [.ref h1, .ref x0, .ref g0, .ref h10, .ref y0, .ref h42, .int (iI fnd), .int (iI ask)]), (h1, jR E 2 4 ra), (bo 0, jO 4 [.ref (bi 0), .int (iI (nr 0))]), (bo 1, jO 4 [.ref (bi 1), .int (iI (nr 1))]), (bo 2, jO 4 [.ref (bi 2), .int (iI (nr 2))]), (bo 3, jO 4 [.ref (bi 3), .int (iI (nr 3))]), (bi 0, jA E 48 (rr0 0)), (bi 1, jA E 48 (rr0 1)), (bi 2, jA E 48 (rr0 2)), (bi 3, jA E 48 (rr0 3)), (x0, jO 3 [.ref x1, .ref x3, .ref x4, .ref x6, .int (iI wd), .int (iI ((nb : Nat) : Int))]), (x1, jO 4 [.ref x2, .int (iI n)]), (x2, jA E 48 f), (x3, jA E 48 sh)] ++ M2))) : ∀ (d : Nat) (k : Nat), nb - k < d → (k ≤ nb) → J E Y_X6_digest (jZm E Y_X6_digest (fun rr N0 => rr = some (.long (dgr (dgF (dgF (dgc v 10) f n.toNat) sh nb) nr rr0 4)) ∧ N0 = ([(h0, jO 6 [.ref h1, .ref x0, .ref g0, .ref h10, .ref y0, .ref h42, .int (iI fnd), .int (iI ask)]), (h1, jR E 2 4 ra), (bo 0, jO 4 [.ref (bi 0), .int (iI (nr 0))]), (bo 1, jO 4 [.ref (bi 1), .int (iI (nr 1))]), (bo 2, jO 4 [.ref (bi 2), .int (iI (nr 2))]), (bo 3, jO 4 [.ref (bi 3), .int (iI (nr 3))]), (bi 0, jA E 48 (rr0 0)), (bi 1, jA E 48 (rr0 1)), (bi 2, jA E 48 (rr0 2)), (bi 3, jA E 48 (rr0 3)), (x0, jO 3 [.ref x1, .ref x3, .ref x4, .ref x6, .int (iI wd), .int (iI ((nb : Nat) : Int))]), (x1, jO 4 [.ref x2, .int (iI n)]), (x2, jA E 48 f), (x3, jA E 48 sh)] ++ M2))) 0 0 45 [(0, .ref h0), (1, .long (dgF (dgF (dgc v 10) f n.toNat) sh k)), (3, .int (iI (k : Int)))] [] ([(h0, jO 6 [.ref h1, .ref x0, .ref g0, .ref h10, .ref y0, .ref h42, .int (iI fnd), .int (iI ask)]), (h1, jR E 2 4 ra), (bo 0, jO 4 [.ref (bi 0), .int (iI (nr 0))]), (bo 1, jO 4 [.ref (bi 1), .int (iI (nr 1))]), (bo 2, jO 4 [.ref (bi 2), .int (iI (nr 2))]), (bo 3, jO 4 [.ref (bi 3), .int (iI (nr 3))]), (bi 0, jA E 48 (rr0 0)), (bi 1, jA E 48 (rr0 1)), (bi 2, jA E 48 (rr0 2)), (bi 3, jA E 48 (rr0 3)), (x0, jO 3 [.ref x1, .ref x3, .ref x4, .ref x6, .int (iI wd), .int (iI ((nb : Nat) : Int))]), (x1, jO 4 [.ref x2, .int (iI n)]), (x2, jA E 48 f), (x3, jA E 48 sh)] ++ M2) := by
  intro d
  induction d with
  | zero => intros; omega
  | succ d ih =>
    intro k hd hk
    refine j_iload_3 46 dX6_digest_45 rfl ?_
    refine j_aload_0 47 dX6_digest_46 rfl ?_
    refine j_get 50 0 gf_X6_26 dX6_digest_47 rfl rfl ?_
    refine j_get 53 10 gf_X6_98 dX6_digest_50 rfl rfl ?_
    refine j_icmp_ge 79 56 dX6_digest_53 (by first | with_reducible exact iI_rng _ | with_reducible exact bI_r _ | exact ⟨by omega, by omega⟩) (by first | with_reducible exact iI_rng _ | with_reducible exact bI_r _ | exact ⟨by omega, by omega⟩) (fun q53 => ?_) (fun q53 => ?_)
    · have e0 : nb = k := by omega
      subst e0
      refine j_iconst 80 dX6_digest_79 ?_
      refine j_istore_3 81 (lv' := [(0, _), (1, _), (3, _)]) dX6_digest_80 rfl ⟨rfl, rfl⟩ ?_
      exact lp_digest3 E h0 h1 x0 g0 h10 y0 h42 x1 x2 x3 x4 x6 fnd ask ra bo bi nr rr0 wd nb n f sh M2 v hra hnr hn hnb hcnt 5 0 (by omega) (by omega)
    · refine j_ldc2 59 wk_X6_236 dX6_digest_56 ?_
      refine j_lload_1 60 dX6_digest_59 rfl ?_
      refine j_lmul 61 dX6_digest_60 ?_
      refine j_aload_0 62 dX6_digest_61 rfl ?_
      refine j_get 65 0 gf_X6_26 dX6_digest_62 rfl rfl ?_
      refine j_get 68 10 gf_X6_137 dX6_digest_65 rfl rfl ?_
      refine j_iload_3 69 dX6_digest_68 rfl ?_
      refine j_ialdx 70 13 _ dX6_digest_69 rfl rfl rfl (by omega) ?_
      refine j_i2l 71 dX6_digest_70 ?_
      refine j_ladd 72 dX6_digest_71 ?_
      refine j_lstore_1 73 (lv' := [(0, _), (1, _), (3, _)]) dX6_digest_72 rfl ⟨rfl, rfl, rfl⟩ ?_
      refine j_iinc 76 (lv' := [(0, _), (1, _), (3, _)]) dX6_digest_73 rfl rfl ⟨rfl, rfl⟩ ?_
      refine j_goto 45 dX6_digest_76 ?_
      exact ih (k + 1) (by omega) (by omega)

theorem all_sub (M : va_W) : (List.range M.length).map (fun i => M[i]?) = M.map some := by
  apply List.ext_getElem?
  intro i
  rw [List.getElem?_map, List.getElem?_map]
  by_cases h : i < M.length
  · rw [List.getElem?_range h]; simp [h]
  · rw [List.getElem?_eq_none (by simpa using h), List.getElem?_eq_none (by omega)]; rfl
theorem va_nd_range : ∀ l : List Nat, l.Nodup → va_nd l = true
  | [], _ => rfl
  | a :: l, h => by
    have h2 := List.nodup_cons.mp h
    simp [va_nd, h2.1, va_nd_range l h2.2]

set_option maxRecDepth 100000 in
set_option maxHeartbeats 4000000 in
theorem lp_digest1 (E : jD) (h0 h1 x0 g0 h10 y0 h42 x1 x2 x3 x4 x6 : Nat) (fnd ask : Int) (ra : Nat → Option Nat) (bo bi : Nat → Nat) (nr : Nat → Int) (rr0 : Nat → Nat → Int32) (wd : Int) (nb : Nat) (n : Int) (f sh : Nat → Int32) (M2 : va_W) (v : Nat → Int) (hra : ∀ r, r < 4 → ra r = some (bo r)) (hnr : ∀ r, r < 4 → -1 ≤ nr r ∧ nr r ≤ 48) (hn : n = -1 ∨ (0 ≤ n ∧ n ≤ 48)) (hnb : nb ≤ 48) (hcnt : ∀ k, k < 10 → MC E Y_X6_count [.ref h0, .int (iI ((k : Nat) : Int))] ([(h0, jO 6 [.ref h1, .ref x0, .ref g0, .ref h10, .ref y0, .ref h42, .int (iI fnd), .int (iI ask)]), (h1, jR E 2 4 ra), (bo 0, jO 4 [.ref (bi 0), .int (iI (nr 0))]), (bo 1, jO 4 [.ref (bi 1), .int (iI (nr 1))]), (bo 2, jO 4 [.ref (bi 2), .int (iI (nr 2))]), (bo 3, jO 4 [.ref (bi 3), .int (iI (nr 3))]), (bi 0, jA E 48 (rr0 0)), (bi 1, jA E 48 (rr0 1)), (bi 2, jA E 48 (rr0 2)), (bi 3, jA E 48 (rr0 3)), (x0, jO 3 [.ref x1, .ref x3, .ref x4, .ref x6, .int (iI wd), .int (iI ((nb : Nat) : Int))]), (x1, jO 4 [.ref x2, .int (iI n)]), (x2, jA E 48 f), (x3, jA E 48 sh)] ++ M2) (fun rr N0 => rr = some (.int (iI (v k))) ∧ N0 = ([(h0, jO 6 [.ref h1, .ref x0, .ref g0, .ref h10, .ref y0, .ref h42, .int (iI fnd), .int (iI ask)]), (h1, jR E 2 4 ra), (bo 0, jO 4 [.ref (bi 0), .int (iI (nr 0))]), (bo 1, jO 4 [.ref (bi 1), .int (iI (nr 1))]), (bo 2, jO 4 [.ref (bi 2), .int (iI (nr 2))]), (bo 3, jO 4 [.ref (bi 3), .int (iI (nr 3))]), (bi 0, jA E 48 (rr0 0)), (bi 1, jA E 48 (rr0 1)), (bi 2, jA E 48 (rr0 2)), (bi 3, jA E 48 (rr0 3)), (x0, jO 3 [.ref x1, .ref x3, .ref x4, .ref x6, .int (iI wd), .int (iI ((nb : Nat) : Int))]), (x1, jO 4 [.ref x2, .int (iI n)]), (x2, jA E 48 f), (x3, jA E 48 sh)] ++ M2))) : ∀ (d : Nat) (k : Nat), 10 - k < d → (k ≤ 10) → J E Y_X6_digest (jZm E Y_X6_digest (fun rr N0 => rr = some (.long (dgr (dgF (dgF (dgc v 10) f n.toNat) sh nb) nr rr0 4)) ∧ N0 = ([(h0, jO 6 [.ref h1, .ref x0, .ref g0, .ref h10, .ref y0, .ref h42, .int (iI fnd), .int (iI ask)]), (h1, jR E 2 4 ra), (bo 0, jO 4 [.ref (bi 0), .int (iI (nr 0))]), (bo 1, jO 4 [.ref (bi 1), .int (iI (nr 1))]), (bo 2, jO 4 [.ref (bi 2), .int (iI (nr 2))]), (bo 3, jO 4 [.ref (bi 3), .int (iI (nr 3))]), (bi 0, jA E 48 (rr0 0)), (bi 1, jA E 48 (rr0 1)), (bi 2, jA E 48 (rr0 2)), (bi 3, jA E 48 (rr0 3)), (x0, jO 3 [.ref x1, .ref x3, .ref x4, .ref x6, .int (iI wd), .int (iI ((nb : Nat) : Int))]), (x1, jO 4 [.ref x2, .int (iI n)]), (x2, jA E 48 f), (x3, jA E 48 sh)] ++ M2))) 0 0 6 [(0, .ref h0), (1, .long (dgc v k)), (3, .int (iI (k : Int)))] [] ([(h0, jO 6 [.ref h1, .ref x0, .ref g0, .ref h10, .ref y0, .ref h42, .int (iI fnd), .int (iI ask)]), (h1, jR E 2 4 ra), (bo 0, jO 4 [.ref (bi 0), .int (iI (nr 0))]), (bo 1, jO 4 [.ref (bi 1), .int (iI (nr 1))]), (bo 2, jO 4 [.ref (bi 2), .int (iI (nr 2))]), (bo 3, jO 4 [.ref (bi 3), .int (iI (nr 3))]), (bi 0, jA E 48 (rr0 0)), (bi 1, jA E 48 (rr0 1)), (bi 2, jA E 48 (rr0 2)), (bi 3, jA E 48 (rr0 3)), (x0, jO 3 [.ref x1, .ref x3, .ref x4, .ref x6, .int (iI wd), .int (iI ((nb : Nat) : Int))]), (x1, jO 4 [.ref x2, .int (iI n)]), (x2, jA E 48 f), (x3, jA E 48 sh)] ++ M2) := by
  intro d
  induction d with
  | zero => intros; omega
  | succ d ih =>
    intro k hd hk
    refine j_iload_3 7 dX6_digest_6 rfl ?_
    refine j_bipush 9 dX6_digest_7 (by decide +kernel) ?_
    refine j_icmp_ge 31 12 dX6_digest_9 (by first | with_reducible exact iI_rng _ | with_reducible exact bI_r _ | exact ⟨by omega, by omega⟩) (by first | with_reducible exact iI_rng _ | with_reducible exact bI_r _ | exact ⟨by omega, by omega⟩) (fun q9 => ?_) (fun q9 => ?_)
    · have e0 : k = 10 := by omega
      subst e0
      refine j_aload_0 32 dX6_digest_31 rfl ?_
      refine j_get 35 0 gf_X6_26 dX6_digest_32 rfl rfl ?_
      refine j_get 38 10 gf_X6_104 dX6_digest_35 rfl rfl ?_
      refine j_lload_1 39 dX6_digest_38 rfl ?_
      refine j_callVl 42 Y_X4_digestOn [11, 12] [_] (dig_on E x1 x2 n f _ hn) m_X4_digestOn wml_X6_241 dX6_digest_39 0 rfl rfl rfl rfl rfl rfl rfl rfl rfl rfl ?_
      refine j_lstore_1 43 (lv' := [(0, _), (1, _), (3, _)]) dX6_digest_42 rfl ⟨rfl, rfl, rfl⟩ ?_
      refine j_iconst 44 dX6_digest_43 ?_
      refine j_istore_3 45 (lv' := [(0, _), (1, _), (3, _)]) dX6_digest_44 rfl ⟨rfl, rfl⟩ ?_
      exact lp_digest2 E h0 h1 x0 g0 h10 y0 h42 x1 x2 x3 x4 x6 fnd ask ra bo bi nr rr0 wd nb n f sh M2 v hra hnr hn hnb hcnt (nb + 1) 0 (by omega) (by omega)
    · refine j_ldc2 15 wk_X6_236 dX6_digest_12 ?_
      refine j_lload_1 16 dX6_digest_15 rfl ?_
      refine j_lmul 17 dX6_digest_16 ?_
      refine j_aload_0 18 dX6_digest_17 rfl ?_
      refine j_iload_3 19 dX6_digest_18 rfl ?_
      refine j_callVi 22 Y_X6_count ((List.range ([(h0, jO 6 [.ref h1, .ref x0, .ref g0, .ref h10, .ref y0, .ref h42, .int (iI fnd), .int (iI ask)]), (h1, jR E 2 4 ra), (bo 0, jO 4 [.ref (bi 0), .int (iI (nr 0))]), (bo 1, jO 4 [.ref (bi 1), .int (iI (nr 1))]), (bo 2, jO 4 [.ref (bi 2), .int (iI (nr 2))]), (bo 3, jO 4 [.ref (bi 3), .int (iI (nr 3))]), (bi 0, jA E 48 (rr0 0)), (bi 1, jA E 48 (rr0 1)), (bi 2, jA E 48 (rr0 2)), (bi 3, jA E 48 (rr0 3)), (x0, jO 3 [.ref x1, .ref x3, .ref x4, .ref x6, .int (iI wd), .int (iI ((nb : Nat) : Int))]), (x1, jO 4 [.ref x2, .int (iI n)]), (x2, jA E 48 f), (x3, jA E 48 sh)] ++ M2).length)) [_] (hcnt k (by omega)) m_X6_count wml_X6_238 dX6_digest_19 0 rfl rfl rfl rfl rfl rfl rfl (all_sub _) (va_nd_range _ List.nodup_range) rfl ?_
      refine j_i2l 23 dX6_digest_22 ?_
      refine j_ladd 24 dX6_digest_23 ?_
      refine j_lstore_1 25 (lv' := [(0, _), (1, _), (3, _)]) dX6_digest_24 rfl ⟨rfl, rfl, rfl⟩ ?_
      refine j_iinc 28 (lv' := [(0, _), (1, _), (3, _)]) dX6_digest_25 rfl rfl ⟨rfl, rfl⟩ ?_
      refine j_goto 6 dX6_digest_28 ?_
      exact ih (k + 1) (by omega) (by omega)

set_option maxRecDepth 100000 in
set_option maxHeartbeats 4000000 in
theorem c_X6_digest (E : jD) (h0 h1 x0 g0 h10 y0 h42 x1 x2 x3 x4 x6 : Nat) (fnd ask : Int) (ra : Nat → Option Nat) (bo bi : Nat → Nat) (nr : Nat → Int) (rr0 : Nat → Nat → Int32) (wd : Int) (nb : Nat) (n : Int) (f sh : Nat → Int32) (M2 : va_W) (v : Nat → Int) (hra : ∀ r, r < 4 → ra r = some (bo r)) (hnr : ∀ r, r < 4 → -1 ≤ nr r ∧ nr r ≤ 48) (hn : n = -1 ∨ (0 ≤ n ∧ n ≤ 48)) (hnb : nb ≤ 48) (hcnt : ∀ k, k < 10 → MC E Y_X6_count [.ref h0, .int (iI ((k : Nat) : Int))] ([(h0, jO 6 [.ref h1, .ref x0, .ref g0, .ref h10, .ref y0, .ref h42, .int (iI fnd), .int (iI ask)]), (h1, jR E 2 4 ra), (bo 0, jO 4 [.ref (bi 0), .int (iI (nr 0))]), (bo 1, jO 4 [.ref (bi 1), .int (iI (nr 1))]), (bo 2, jO 4 [.ref (bi 2), .int (iI (nr 2))]), (bo 3, jO 4 [.ref (bi 3), .int (iI (nr 3))]), (bi 0, jA E 48 (rr0 0)), (bi 1, jA E 48 (rr0 1)), (bi 2, jA E 48 (rr0 2)), (bi 3, jA E 48 (rr0 3)), (x0, jO 3 [.ref x1, .ref x3, .ref x4, .ref x6, .int (iI wd), .int (iI ((nb : Nat) : Int))]), (x1, jO 4 [.ref x2, .int (iI n)]), (x2, jA E 48 f), (x3, jA E 48 sh)] ++ M2) (fun rr N0 => rr = some (.int (iI (v k))) ∧ N0 = ([(h0, jO 6 [.ref h1, .ref x0, .ref g0, .ref h10, .ref y0, .ref h42, .int (iI fnd), .int (iI ask)]), (h1, jR E 2 4 ra), (bo 0, jO 4 [.ref (bi 0), .int (iI (nr 0))]), (bo 1, jO 4 [.ref (bi 1), .int (iI (nr 1))]), (bo 2, jO 4 [.ref (bi 2), .int (iI (nr 2))]), (bo 3, jO 4 [.ref (bi 3), .int (iI (nr 3))]), (bi 0, jA E 48 (rr0 0)), (bi 1, jA E 48 (rr0 1)), (bi 2, jA E 48 (rr0 2)), (bi 3, jA E 48 (rr0 3)), (x0, jO 3 [.ref x1, .ref x3, .ref x4, .ref x6, .int (iI wd), .int (iI ((nb : Nat) : Int))]), (x1, jO 4 [.ref x2, .int (iI n)]), (x2, jA E 48 f), (x3, jA E 48 sh)] ++ M2))) : MC E Y_X6_digest [.ref h0] ([(h0, jO 6 [.ref h1, .ref x0, .ref g0, .ref h10, .ref y0, .ref h42, .int (iI fnd), .int (iI ask)]), (h1, jR E 2 4 ra), (bo 0, jO 4 [.ref (bi 0), .int (iI (nr 0))]), (bo 1, jO 4 [.ref (bi 1), .int (iI (nr 1))]), (bo 2, jO 4 [.ref (bi 2), .int (iI (nr 2))]), (bo 3, jO 4 [.ref (bi 3), .int (iI (nr 3))]), (bi 0, jA E 48 (rr0 0)), (bi 1, jA E 48 (rr0 1)), (bi 2, jA E 48 (rr0 2)), (bi 3, jA E 48 (rr0 3)), (x0, jO 3 [.ref x1, .ref x3, .ref x4, .ref x6, .int (iI wd), .int (iI ((nb : Nat) : Int))]), (x1, jO 4 [.ref x2, .int (iI n)]), (x2, jA E 48 f), (x3, jA E 48 sh)] ++ M2) (fun rr N0 => rr = some (.long (dgr (dgF (dgF (dgc v 10) f n.toNat) sh nb) nr rr0 4)) ∧ N0 = ([(h0, jO 6 [.ref h1, .ref x0, .ref g0, .ref h10, .ref y0, .ref h42, .int (iI fnd), .int (iI ask)]), (h1, jR E 2 4 ra), (bo 0, jO 4 [.ref (bi 0), .int (iI (nr 0))]), (bo 1, jO 4 [.ref (bi 1), .int (iI (nr 1))]), (bo 2, jO 4 [.ref (bi 2), .int (iI (nr 2))]), (bo 3, jO 4 [.ref (bi 3), .int (iI (nr 3))]), (bi 0, jA E 48 (rr0 0)), (bi 1, jA E 48 (rr0 1)), (bi 2, jA E 48 (rr0 2)), (bi 3, jA E 48 (rr0 3)), (x0, jO 3 [.ref x1, .ref x3, .ref x4, .ref x6, .int (iI wd), .int (iI ((nb : Nat) : Int))]), (x1, jO 4 [.ref x2, .int (iI n)]), (x2, jA E 48 f), (x3, jA E 48 sh)] ++ M2)) := by
  refine MC.of (by decide) rfl rfl ?_
  refine j_ldc2 3 wk_X6_234 dX6_digest_0 ?_
  refine j_lstore_1 4 (lv' := [(0, _), (1, _)]) dX6_digest_3 rfl ⟨rfl, rfl, rfl⟩ ?_
  refine j_iconst 5 dX6_digest_4 ?_
  refine j_istore_3 6 (lv' := [(0, _), (1, _), (3, _)]) dX6_digest_5 rfl ⟨rfl, rfl⟩ ?_
  exact lp_digest1 E h0 h1 x0 g0 h10 y0 h42 x1 x2 x3 x4 x6 fnd ask ra bo bi nr rr0 wd nb n f sh M2 v hra hnr hn hnb hcnt 11 0 (by omega) (by omega)
