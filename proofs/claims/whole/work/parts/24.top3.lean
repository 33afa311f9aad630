set_option maxRecDepth 100000 in
set_option maxHeartbeats 4000000 in
theorem c_X6_put_lo (E : jD) (h0 : Nat) (h1 : Nat) (x0 : Nat) (g0 : Nat) (h10 : Nat) (y0 : Nat) (h42 : Nat) (x1 : Nat) (x2 : Nat) (x3 : Nat) (x4 : Nat) (x5 : Nat) (x6 : Nat) (g1 : Nat) (g2 : Nat) (fnd : Int) (ask : Int) (bl : Int) (mm : Int) (fm : Nat → Int) (f : Nat → Int32) (sh : Nat → Int32) (pl : Nat → Int32) (hp : Nat → Int32) (hq : Nat → Int32) (w : Nat → Int64) (n wd i : Nat) (v : Int32) (um : Nat) (hn : -1 ≤ (n : Int) ∧ (n : Int) ≤ 48) (hw : 1 ≤ wd ∧ wd ≤ 6) (hi : i < n) (hm : um < 10) : MC E Y_X6_put [.ref h0, .int (iI (i : Int)), .int v] [(h0, jO 6 [.ref h1, .ref x0, .ref g0, .ref h10, .ref y0, .ref h42, .int (iI fnd), .int (iI ask)]), (h42, jA E 5 (aI fm)), (x0, jO 3 [.ref x1, .ref x3, .ref x4, .ref x6, .int (iI (wd : Int)), .int (iI bl)]), (x1, jO 4 [.ref x2, .int (iI (n : Int))]), (x2, jA E 48 f), (x3, jA E 48 sh), (x4, jO 5 [.ref x5, .int (iI mm)]), (x5, jL E 64 w), (x6, jA E 6 pl), (g0, jO 1 [.ref g1, .ref g2, .int (iI (um : Int))]), (g1, jA E 10 hp), (g2, jA E 10 hq)] (fun rr N0 => ∃ pl2, rr = some (.int (iI (bI (¬ ((shB (tI (upd f i v)) n wd (i / wd)) : Int) = (sh (i / wd)).toInt)))) ∧ N0 = [(h0, jO 6 [.ref h1, .ref x0, .ref g0, .ref h10, .ref y0, .ref h42, .int (iI fnd), .int (iI (f i).toInt)]), (h42, jA E 5 (aI fm)), (x0, jO 3 [.ref x1, .ref x3, .ref x4, .ref x6, .int (iI (wd : Int)), .int (iI bl)]), (x1, jO 4 [.ref x2, .int (iI (n : Int))]), (x2, jA E 48 (upd f i v)), (x3, jA E 48 (upd sh (i / wd) (iI ((shB (tI (upd f i v)) n wd (i / wd)) : Nat)))), (x4, jO 5 [.ref x5, .int (iI (inM w mm (shB (tI (upd f i v)) n wd (i / wd))))]), (x5, jL E 64 (inW w (shB (tI (upd f i v)) n wd (i / wd)))), (x6, jA E 6 pl2), (g0, jO 1 [.ref g1, .ref g2, .int (iI ((um : Int) + 1))]), (g1, jA E 10 (upd hp um (iI (i : Int)))), (g2, jA E 10 (upd hq um (iI (f i).toInt)))]) := by
  refine MC.of (by decide) rfl rfl ?_
  refine j_aload_0 1 dX6_put_0 rfl ?_
  refine j_iload_1 2 dX6_put_1 rfl ?_
  refine j_callVi 5 Y_X6_refusalOfItem [0, 1, 2, 3] [_] (c_X6_refusalOfItem_ok E _ _ _ _ _ _ _ _ _ _ _ _ _ _ _ _ _ _ _ hn (by omega)) m_X6_refusalOfItem wml_X6_101 dX6_put_2 0 rfl rfl rfl rfl rfl rfl rfl rfl rfl rfl ?_
  refine j_istore_3 6 (lv' := [(0, _), (1, _), (2, _), (3, _)]) dX6_put_5 rfl ⟨rfl, rfl⟩ ?_
  refine j_iload_3 7 dX6_put_6 rfl ?_
  refine j_if_eq 12 10 dX6_put_7 (by first | with_reducible exact iI_rng _ | with_reducible exact bI_r _ | exact ⟨by omega, by omega⟩) (fun q7 => ?_) (fun q7 => ?_)
  · refine j_aload_0 13 dX6_put_12 rfl ?_
    refine j_aload_0 14 dX6_put_13 rfl ?_
    refine j_get 17 0 gf_X6_26 dX6_put_14 rfl rfl ?_
    refine j_get 20 2 gf_X6_104 dX6_put_17 rfl rfl ?_
    refine j_get 23 3 gf_X6_71 dX6_put_20 rfl rfl ?_
    refine j_iload_1 24 dX6_put_23 rfl ?_
    refine j_iald 25 4 _ dX6_put_24 rfl rfl rfl (by omega) ?_
    refine j_put 28 0 pf_X6_52 dX6_put_25 rfl ⟨rfl, rfl, rfl⟩ ?_
    refine j_aload_0 29 dX6_put_28 rfl ?_
    refine j_get 32 0 gf_X6_33 dX6_put_29 rfl rfl ?_
    refine j_iload_1 33 dX6_put_32 rfl ?_
    refine j_aload_0 34 dX6_put_33 rfl ?_
    refine j_get 37 0 gf_X6_52 dX6_put_34 rfl rfl ?_
    refine j_callV 40 Y_X1_remember [9, 10, 11] [_, _] (c_X1_remember_lo E _ _ _ _ _ _ _ _ hm) m_X1_remember wml_X6_108 dX6_put_37 0 rfl rfl rfl rfl rfl rfl rfl rfl rfl (fun r N h => by obtain ⟨rfl, rfl⟩ := h; rfl) (fun r N h => ?_)
    obtain ⟨rfl, rfl⟩ := h
    refine j_eqM (M' := [(h0, jO 6 [.ref h1, .ref x0, .ref g0, .ref h10, .ref y0, .ref h42, .int (iI fnd), .int (iI (f i).toInt)]), (h42, jA E 5 (aI fm)), (x0, jO 3 [.ref x1, .ref x3, .ref x4, .ref x6, .int (iI (wd : Int)), .int (iI bl)]), (x1, jO 4 [.ref x2, .int (iI (n : Int))]), (x2, jA E 48 f), (x3, jA E 48 sh), (x4, jO 5 [.ref x5, .int (iI mm)]), (x5, jL E 64 w), (x6, jA E 6 pl), (g0, jO 1 [.ref g1, .ref g2, .int (iI ((um : Int) + 1))]), (g1, jA E 10 (upd hp um (iI (i : Int)))), (g2, jA E 10 (upd hq um (iI (f i).toInt)))]) rfl ?_
    refine j_aload_0 41 dX6_put_40 rfl ?_
    refine j_get 44 0 gf_X6_26 dX6_put_41 rfl rfl ?_
    refine j_iload_1 45 dX6_put_44 rfl ?_
    refine j_iload_2 46 dX6_put_45 rfl ?_
    refine j_callV 49 Y_X3_change [2, 3, 4, 5, 6, 7, 8] [_, _] (c_X3_change E _ _ _ _ _ _ _ _ _ _ _ _ _ _ _ _ _ hw (by omega) (by omega)) m_X3_change wml_X6_112 dX6_put_46 0 rfl rfl rfl rfl rfl rfl rfl rfl rfl (fun r N h => by obtain ⟨_, rfl, rfl⟩ := h; rfl) (fun r N h => ?_)
    obtain ⟨pl2, rfl, rfl⟩ := h
    refine j_eqM (M' := [(h0, jO 6 [.ref h1, .ref x0, .ref g0, .ref h10, .ref y0, .ref h42, .int (iI fnd), .int (iI (f i).toInt)]), (h42, jA E 5 (aI fm)), (x0, jO 3 [.ref x1, .ref x3, .ref x4, .ref x6, .int (iI (wd : Int)), .int (iI bl)]), (x1, jO 4 [.ref x2, .int (iI (n : Int))]), (x2, jA E 48 (upd f i v)), (x3, jA E 48 (upd sh (i / wd) (iI ((shB (tI (upd f i v)) n wd (i / wd)) : Nat)))), (x4, jO 5 [.ref x5, .int (iI (inM w mm (shB (tI (upd f i v)) n wd (i / wd))))]), (x5, jL E 64 (inW w (shB (tI (upd f i v)) n wd (i / wd)))), (x6, jA E 6 pl2), (g0, jO 1 [.ref g1, .ref g2, .int (iI ((um : Int) + 1))]), (g1, jA E 10 (upd hp um (iI (i : Int)))), (g2, jA E 10 (upd hq um (iI (f i).toInt)))]) rfl ?_
    refine j_bif_eq 56 52 dX6_put_49 (fun q49 => ?_) (fun q49 => ?_)
    · refine j_iconst 57 dX6_put_56 ?_
      exact j_iret dX6_put_57 rfl rfl ⟨pl2, congrArg (fun z => some (Value.int (iI z))) (by first | exact (bI_t q49).symm | exact (bI_f q49).symm), rfl⟩
    · refine j_iconst 53 dX6_put_52 ?_
      refine j_goto 57 dX6_put_53 ?_
      exact j_iret dX6_put_57 rfl rfl ⟨pl2, congrArg (fun z => some (Value.int (iI z))) (by first | exact (bI_t q49).symm | exact (bI_f q49).symm), rfl⟩
  · omega

set_option maxRecDepth 100000 in
set_option maxHeartbeats 4000000 in
theorem c_X6_put_hi (E : jD) (h0 : Nat) (h1 : Nat) (x0 : Nat) (g0 : Nat) (h10 : Nat) (y0 : Nat) (h42 : Nat) (x1 : Nat) (x2 : Nat) (x3 : Nat) (x4 : Nat) (x5 : Nat) (x6 : Nat) (g1 : Nat) (g2 : Nat) (fnd : Int) (ask : Int) (bl : Int) (mm : Int) (fm : Nat → Int) (f : Nat → Int32) (sh : Nat → Int32) (pl : Nat → Int32) (hp : Nat → Int32) (hq : Nat → Int32) (w : Nat → Int64) (n wd i : Nat) (v : Int32) (hn : -1 ≤ (n : Int) ∧ (n : Int) ≤ 48) (hw : 1 ≤ wd ∧ wd ≤ 6) (hi : i < n)  : MC E Y_X6_put [.ref h0, .int (iI (i : Int)), .int v] [(h0, jO 6 [.ref h1, .ref x0, .ref g0, .ref h10, .ref y0, .ref h42, .int (iI fnd), .int (iI ask)]), (h42, jA E 5 (aI fm)), (x0, jO 3 [.ref x1, .ref x3, .ref x4, .ref x6, .int (iI (wd : Int)), .int (iI bl)]), (x1, jO 4 [.ref x2, .int (iI (n : Int))]), (x2, jA E 48 f), (x3, jA E 48 sh), (x4, jO 5 [.ref x5, .int (iI mm)]), (x5, jL E 64 w), (x6, jA E 6 pl), (g0, jO 1 [.ref g1, .ref g2, .int (iI 10)]), (g1, jA E 10 hp), (g2, jA E 10 hq)] (fun rr N0 => ∃ pl2, rr = some (.int (iI (bI (¬ ((shB (tI (upd f i v)) n wd (i / wd)) : Int) = (sh (i / wd)).toInt)))) ∧ N0 = [(h0, jO 6 [.ref h1, .ref x0, .ref g0, .ref h10, .ref y0, .ref h42, .int (iI fnd), .int (iI (f i).toInt)]), (h42, jA E 5 (aI fm)), (x0, jO 3 [.ref x1, .ref x3, .ref x4, .ref x6, .int (iI (wd : Int)), .int (iI bl)]), (x1, jO 4 [.ref x2, .int (iI (n : Int))]), (x2, jA E 48 (upd f i v)), (x3, jA E 48 (upd sh (i / wd) (iI ((shB (tI (upd f i v)) n wd (i / wd)) : Nat)))), (x4, jO 5 [.ref x5, .int (iI (inM w mm (shB (tI (upd f i v)) n wd (i / wd))))]), (x5, jL E 64 (inW w (shB (tI (upd f i v)) n wd (i / wd)))), (x6, jA E 6 pl2), (g0, jO 1 [.ref g1, .ref g2, .int (iI 10)]), (g1, jA E 10 (upd (shF hp 9) 9 (iI (i : Int)))), (g2, jA E 10 (upd (shF hq 9) 9 (iI (f i).toInt)))]) := by
  refine MC.of (by decide) rfl rfl ?_
  refine j_aload_0 1 dX6_put_0 rfl ?_
  refine j_iload_1 2 dX6_put_1 rfl ?_
  refine j_callVi 5 Y_X6_refusalOfItem [0, 1, 2, 3] [_] (c_X6_refusalOfItem_ok E _ _ _ _ _ _ _ _ _ _ _ _ _ _ _ _ _ _ _ hn (by omega)) m_X6_refusalOfItem wml_X6_101 dX6_put_2 0 rfl rfl rfl rfl rfl rfl rfl rfl rfl rfl ?_
  refine j_istore_3 6 (lv' := [(0, _), (1, _), (2, _), (3, _)]) dX6_put_5 rfl ⟨rfl, rfl⟩ ?_
  refine j_iload_3 7 dX6_put_6 rfl ?_
  refine j_if_eq 12 10 dX6_put_7 (by first | with_reducible exact iI_rng _ | with_reducible exact bI_r _ | exact ⟨by omega, by omega⟩) (fun q7 => ?_) (fun q7 => ?_)
  · refine j_aload_0 13 dX6_put_12 rfl ?_
    refine j_aload_0 14 dX6_put_13 rfl ?_
    refine j_get 17 0 gf_X6_26 dX6_put_14 rfl rfl ?_
    refine j_get 20 2 gf_X6_104 dX6_put_17 rfl rfl ?_
    refine j_get 23 3 gf_X6_71 dX6_put_20 rfl rfl ?_
    refine j_iload_1 24 dX6_put_23 rfl ?_
    refine j_iald 25 4 _ dX6_put_24 rfl rfl rfl (by omega) ?_
    refine j_put 28 0 pf_X6_52 dX6_put_25 rfl ⟨rfl, rfl, rfl⟩ ?_
    refine j_aload_0 29 dX6_put_28 rfl ?_
    refine j_get 32 0 gf_X6_33 dX6_put_29 rfl rfl ?_
    refine j_iload_1 33 dX6_put_32 rfl ?_
    refine j_aload_0 34 dX6_put_33 rfl ?_
    refine j_get 37 0 gf_X6_52 dX6_put_34 rfl rfl ?_
    refine j_callV 40 Y_X1_remember [9, 10, 11] [_, _] (c_X1_remember_hi E _ _ _ _ _ _ _) m_X1_remember wml_X6_108 dX6_put_37 0 rfl rfl rfl rfl rfl rfl rfl rfl rfl (fun r N h => by obtain ⟨rfl, rfl⟩ := h; rfl) (fun r N h => ?_)
    obtain ⟨rfl, rfl⟩ := h
    refine j_eqM (M' := [(h0, jO 6 [.ref h1, .ref x0, .ref g0, .ref h10, .ref y0, .ref h42, .int (iI fnd), .int (iI (f i).toInt)]), (h42, jA E 5 (aI fm)), (x0, jO 3 [.ref x1, .ref x3, .ref x4, .ref x6, .int (iI (wd : Int)), .int (iI bl)]), (x1, jO 4 [.ref x2, .int (iI (n : Int))]), (x2, jA E 48 f), (x3, jA E 48 sh), (x4, jO 5 [.ref x5, .int (iI mm)]), (x5, jL E 64 w), (x6, jA E 6 pl), (g0, jO 1 [.ref g1, .ref g2, .int (iI 10)]), (g1, jA E 10 (upd (shF hp 9) 9 (iI (i : Int)))), (g2, jA E 10 (upd (shF hq 9) 9 (iI (f i).toInt)))]) rfl ?_
    refine j_aload_0 41 dX6_put_40 rfl ?_
    refine j_get 44 0 gf_X6_26 dX6_put_41 rfl rfl ?_
    refine j_iload_1 45 dX6_put_44 rfl ?_
    refine j_iload_2 46 dX6_put_45 rfl ?_
    refine j_callV 49 Y_X3_change [2, 3, 4, 5, 6, 7, 8] [_, _] (c_X3_change E _ _ _ _ _ _ _ _ _ _ _ _ _ _ _ _ _ hw (by omega) (by omega)) m_X3_change wml_X6_112 dX6_put_46 0 rfl rfl rfl rfl rfl rfl rfl rfl rfl (fun r N h => by obtain ⟨_, rfl, rfl⟩ := h; rfl) (fun r N h => ?_)
    obtain ⟨pl2, rfl, rfl⟩ := h
    refine j_eqM (M' := [(h0, jO 6 [.ref h1, .ref x0, .ref g0, .ref h10, .ref y0, .ref h42, .int (iI fnd), .int (iI (f i).toInt)]), (h42, jA E 5 (aI fm)), (x0, jO 3 [.ref x1, .ref x3, .ref x4, .ref x6, .int (iI (wd : Int)), .int (iI bl)]), (x1, jO 4 [.ref x2, .int (iI (n : Int))]), (x2, jA E 48 (upd f i v)), (x3, jA E 48 (upd sh (i / wd) (iI ((shB (tI (upd f i v)) n wd (i / wd)) : Nat)))), (x4, jO 5 [.ref x5, .int (iI (inM w mm (shB (tI (upd f i v)) n wd (i / wd))))]), (x5, jL E 64 (inW w (shB (tI (upd f i v)) n wd (i / wd)))), (x6, jA E 6 pl2), (g0, jO 1 [.ref g1, .ref g2, .int (iI 10)]), (g1, jA E 10 (upd (shF hp 9) 9 (iI (i : Int)))), (g2, jA E 10 (upd (shF hq 9) 9 (iI (f i).toInt)))]) rfl ?_
    refine j_bif_eq 56 52 dX6_put_49 (fun q49 => ?_) (fun q49 => ?_)
    · refine j_iconst 57 dX6_put_56 ?_
      exact j_iret dX6_put_57 rfl rfl ⟨pl2, congrArg (fun z => some (Value.int (iI z))) (by first | exact (bI_t q49).symm | exact (bI_f q49).symm), rfl⟩
    · refine j_iconst 53 dX6_put_52 ?_
      refine j_goto 57 dX6_put_53 ?_
      exact j_iret dX6_put_57 rfl rfl ⟨pl2, congrArg (fun z => some (Value.int (iI z))) (by first | exact (bI_t q49).symm | exact (bI_f q49).symm), rfl⟩
  · omega

set_option maxRecDepth 100000 in
set_option maxHeartbeats 4000000 in
theorem c_X6_undo_no (E : jD) (h0 : Nat) (h1 : Nat) (x0 : Nat) (g0 : Nat) (h10 : Nat) (y0 : Nat) (h42 : Nat) (g1 : Nat) (g2 : Nat) (fnd : Int) (ask : Int) (um : Int) (c : Int) (hu : um = 0) (hc : c = -2) : MC E Y_X6_undo [.ref h0] [(h0, jO 6 [.ref h1, .ref x0, .ref g0, .ref h10, .ref y0, .ref h42, .int (iI fnd), .int (iI ask)]), (g0, jO 1 [.ref g1, .ref g2, .int (iI um)])] (fun rr N0 => rr = some (.int (iI (rz c))) ∧ N0 = [(h0, jO 6 [.ref h1, .ref x0, .ref g0, .ref h10, .ref y0, .ref h42, .int (iI fnd), .int (iI ask)]), (g0, jO 1 [.ref g1, .ref g2, .int (iI um)])]) := by
  refine MC.of (by decide) rfl rfl ?_
  refine j_aload_0 1 dX6_undo_0 rfl ?_
  refine j_get 4 0 gf_X6_33 dX6_undo_1 rfl rfl ?_
  refine j_get 7 1 gf_X6_115 dX6_undo_4 rfl rfl ?_
  refine j_iconst 8 dX6_undo_7 ?_
  refine j_icmp_ge 14 11 dX6_undo_8 (by first | with_reducible exact iI_rng _ | with_reducible exact bI_r _ | exact ⟨by omega, by omega⟩) (by first | with_reducible exact iI_rng _ | with_reducible exact bI_r _ | exact ⟨by omega, by omega⟩) (fun q8 => ?_) (fun q8 => ?_)
  · omega
  · refine j_bipush 13 dX6_undo_11 (by decide +kernel) ?_
    obtain rfl : c = -2 := by omega
    exact j_iret dX6_undo_13 rfl rfl ⟨rfl, rfl⟩

set_option maxRecDepth 100000 in
set_option maxHeartbeats 4000000 in
theorem c_X6_undo_ok (E : jD) (h0 : Nat) (h1 : Nat) (x0 : Nat) (g0 : Nat) (h10 : Nat) (y0 : Nat) (h42 : Nat) (x1 : Nat) (x2 : Nat) (x3 : Nat) (x4 : Nat) (x5 : Nat) (x6 : Nat) (g1 : Nat) (g2 : Nat) (fnd : Int) (ask : Int) (bl : Int) (mm : Int) (f : Nat → Int32) (sh : Nat → Int32) (pl : Nat → Int32) (hp : Nat → Int32) (hq : Nat → Int32) (w : Nat → Int64) (n wd i m : Nat) (hn : n ≤ 48) (hw : 1 ≤ wd ∧ wd ≤ 6) (hi : i < n) (hm : m < 10) (hpi : hp m = iI (i : Int)) : MC E Y_X6_undo [.ref h0] [(h0, jO 6 [.ref h1, .ref x0, .ref g0, .ref h10, .ref y0, .ref h42, .int (iI fnd), .int (iI ask)]), (x0, jO 3 [.ref x1, .ref x3, .ref x4, .ref x6, .int (iI (wd : Int)), .int (iI bl)]), (x1, jO 4 [.ref x2, .int (iI (n : Int))]), (x2, jA E 48 f), (x3, jA E 48 sh), (x4, jO 5 [.ref x5, .int (iI mm)]), (x5, jL E 64 w), (x6, jA E 6 pl), (g0, jO 1 [.ref g1, .ref g2, .int (iI ((m : Int) + 1))]), (g1, jA E 10 hp), (g2, jA E 10 hq)] (fun rr N0 => ∃ pl2, rr = some (.int (iI (m : Int))) ∧ N0 = [(h0, jO 6 [.ref h1, .ref x0, .ref g0, .ref h10, .ref y0, .ref h42, .int (iI fnd), .int (iI ask)]), (x0, jO 3 [.ref x1, .ref x3, .ref x4, .ref x6, .int (iI (wd : Int)), .int (iI bl)]), (x1, jO 4 [.ref x2, .int (iI (n : Int))]), (x2, jA E 48 (upd f i (hq m))), (x3, jA E 48 (upd sh (i / wd) (iI ((shB (tI (upd f i (hq m))) n wd (i / wd)) : Nat)))), (x4, jO 5 [.ref x5, .int (iI (inM w mm (shB (tI (upd f i (hq m))) n wd (i / wd))))]), (x5, jL E 64 (inW w (shB (tI (upd f i (hq m))) n wd (i / wd)))), (x6, jA E 6 pl2), (g0, jO 1 [.ref g1, .ref g2, .int (iI (m : Int))]), (g1, jA E 10 hp), (g2, jA E 10 hq)]) := by
  refine MC.of (by decide) rfl rfl ?_
  refine j_aload_0 1 dX6_undo_0 rfl ?_
  refine j_get 4 0 gf_X6_33 dX6_undo_1 rfl rfl ?_
  refine j_get 7 8 gf_X6_115 dX6_undo_4 rfl rfl ?_
  refine j_iconst 8 dX6_undo_7 ?_
  refine j_icmp_ge 14 11 dX6_undo_8 (by first | with_reducible exact iI_rng _ | with_reducible exact bI_r _ | exact ⟨by omega, by omega⟩) (by first | with_reducible exact iI_rng _ | with_reducible exact bI_r _ | exact ⟨by omega, by omega⟩) (fun q8 => ?_) (fun q8 => ?_)
  · refine j_aload_0 15 dX6_undo_14 rfl ?_
    refine j_get 18 0 gf_X6_33 dX6_undo_15 rfl rfl ?_
    refine j_get 21 8 gf_X6_115 dX6_undo_18 rfl rfl ?_
    refine j_iconst 22 dX6_undo_21 ?_
    refine j_isub 23 dX6_undo_22 ?_
    refine j_top (m : Int) (congrArg iI (by omega)) ?_
    refine j_istore_1 24 (lv' := [(0, _), (1, _)]) dX6_undo_23 rfl ⟨rfl, rfl⟩ ?_
    refine j_aload_0 25 dX6_undo_24 rfl ?_
    refine j_get 28 0 gf_X6_26 dX6_undo_25 rfl rfl ?_
    refine j_aload_0 29 dX6_undo_28 rfl ?_
    refine j_get 32 0 gf_X6_33 dX6_undo_29 rfl rfl ?_
    refine j_get 35 8 gf_X6_116 dX6_undo_32 rfl rfl ?_
    refine j_iload_1 36 dX6_undo_35 rfl ?_
    refine j_ialdw 37 9 _ ((i : Int)) dX6_undo_36 rfl rfl rfl (by omega) hpi ?_
    refine j_aload_0 38 dX6_undo_37 rfl ?_
    refine j_get 41 0 gf_X6_33 dX6_undo_38 rfl rfl ?_
    refine j_get 44 8 gf_X6_119 dX6_undo_41 rfl rfl ?_
    refine j_iload_1 45 dX6_undo_44 rfl ?_
    refine j_ialdx 46 10 _ dX6_undo_45 rfl rfl rfl (by omega) ?_
    refine j_callV 49 Y_X3_change [1, 2, 3, 4, 5, 6, 7] [_, _] (c_X3_change E _ _ _ _ _ _ _ _ _ _ _ _ _ _ _ _ _ hw hn hi) m_X3_change wml_X6_112 dX6_undo_46 0 rfl rfl rfl rfl rfl rfl rfl rfl rfl (fun r N h => by obtain ⟨_, rfl, rfl⟩ := h; rfl) (fun r N h => ?_)
    obtain ⟨pl2, rfl, rfl⟩ := h
    refine j_pop 50 dX6_undo_49 rfl ?_
    refine j_aload_0 51 dX6_undo_50 rfl ?_
    refine j_get 54 0 gf_X6_33 dX6_undo_51 rfl rfl ?_
    refine j_iload_1 55 dX6_undo_54 rfl ?_
    refine j_put 58 8 pf_X6_115 dX6_undo_55 rfl ⟨rfl, rfl, rfl⟩ ?_
    refine j_iload_1 59 dX6_undo_58 rfl ?_
    exact j_iret dX6_undo_59 rfl rfl ⟨pl2, rfl, rfl⟩
  · omega

set_option maxRecDepth 100000 in
set_option maxHeartbeats 4000000 in
theorem c_X6_keep_bad (E : jD) (h0 : Nat) (h1 : Nat) (x0 : Nat) (g0 : Nat) (h10 : Nat) (y0 : Nat) (h42 : Nat) (fnd : Int) (ask : Int) (k : Int) (hk : jr k) (hb : k < 0 ∨ 2 ≤ k) : MC E Y_X6_keep [.ref h0, .int (iI k)] [(h0, jO 6 [.ref h1, .ref x0, .ref g0, .ref h10, .ref y0, .ref h42, .int (iI fnd), .int (iI ask)])] (fun rr N0 => rr = some (.int (iI (-1))) ∧ N0 = [(h0, jO 6 [.ref h1, .ref x0, .ref g0, .ref h10, .ref y0, .ref h42, .int (iI fnd), .int (iI ask)])]) := by
  refine MC.of (by decide) rfl rfl ?_
  refine j_iload_1 1 dX6_keep_0 rfl ?_
  refine j_callSi 4 Y_X6_isNoImage [] [_] (c_X6_isNoImage E _ (by first | with_reducible assumption | exact ⟨by omega, by omega⟩)) m_X6_isNoImage wml_X6_122 dX6_keep_1 rfl rfl rfl rfl rfl rfl rfl ?_
  refine j_bif_eq 9 7 dX6_keep_4 (fun q4 => ?_) (fun q4 => ?_)
  · omega
  · refine j_iconst 8 dX6_keep_7 ?_
    exact j_iret dX6_keep_8 rfl rfl ⟨rfl, rfl⟩

set_option maxRecDepth 100000 in
set_option maxHeartbeats 4000000 in
theorem c_X6_on_bad (E : jD) (h0 : Nat) (h1 : Nat) (x0 : Nat) (g0 : Nat) (h10 : Nat) (y0 : Nat) (h42 : Nat) (fnd : Int) (ask : Int) (k : Int) (hk : jr k) (hb : k < 0 ∨ 2 ≤ k) : MC E Y_X6_on [.ref h0, .int (iI k)] [(h0, jO 6 [.ref h1, .ref x0, .ref g0, .ref h10, .ref y0, .ref h42, .int (iI fnd), .int (iI ask)])] (fun rr N0 => rr = some (.int (iI (-1))) ∧ N0 = [(h0, jO 6 [.ref h1, .ref x0, .ref g0, .ref h10, .ref y0, .ref h42, .int (iI fnd), .int (iI ask)])]) := by
  refine MC.of (by decide) rfl rfl ?_
  refine j_iload_1 1 dX6_on_0 rfl ?_
  refine j_callSi 4 Y_X6_isNoImage [] [_] (c_X6_isNoImage E _ (by first | with_reducible assumption | exact ⟨by omega, by omega⟩)) m_X6_isNoImage wml_X6_122 dX6_on_1 rfl rfl rfl rfl rfl rfl rfl ?_
  refine j_bif_eq 9 7 dX6_on_4 (fun q4 => ?_) (fun q4 => ?_)
  · omega
  · refine j_iconst 8 dX6_on_7 ?_
    exact j_iret dX6_on_8 rfl rfl ⟨rfl, rfl⟩

set_option maxRecDepth 100000 in
set_option maxHeartbeats 4000000 in
theorem c_X6_keep_no (E : jD) (h0 : Nat) (h1 : Nat) (x0 : Nat) (g0 : Nat) (h10 : Nat) (y0 : Nat) (h42 : Nat) (x1 : Nat) (x2 : Nat) (x3 : Nat) (x4 : Nat) (x6 : Nat) (fnd : Int) (ask : Int) (wd : Int) (bl : Int) (n : Int) (k : Nat) (c : Int) (hk2 : k < 2) (hn : n = -1) (hc : c = -2) : MC E Y_X6_keep [.ref h0, .int (iI (k : Int))] [(h0, jO 6 [.ref h1, .ref x0, .ref g0, .ref h10, .ref y0, .ref h42, .int (iI fnd), .int (iI ask)]), (x0, jO 3 [.ref x1, .ref x3, .ref x4, .ref x6, .int (iI wd), .int (iI bl)]), (x1, jO 4 [.ref x2, .int (iI n)])] (fun rr N0 => rr = some (.int (iI (rz c))) ∧ N0 = [(h0, jO 6 [.ref h1, .ref x0, .ref g0, .ref h10, .ref y0, .ref h42, .int (iI fnd), .int (iI ask)]), (x0, jO 3 [.ref x1, .ref x3, .ref x4, .ref x6, .int (iI wd), .int (iI bl)]), (x1, jO 4 [.ref x2, .int (iI n)])]) := by
  refine MC.of (by decide) rfl rfl ?_
  refine j_iload_1 1 dX6_keep_0 rfl ?_
  refine j_callSi 4 Y_X6_isNoImage [] [_] (c_X6_isNoImage E _ (by first | with_reducible assumption | exact ⟨by omega, by omega⟩)) m_X6_isNoImage wml_X6_122 dX6_keep_1 rfl rfl rfl rfl rfl rfl rfl ?_
  refine j_bif_eq 9 7 dX6_keep_4 (fun q4 => ?_) (fun q4 => ?_)
  · refine j_aload_0 10 dX6_keep_9 rfl ?_
    refine j_get 13 0 gf_X6_26 dX6_keep_10 rfl rfl ?_
    refine j_callVi 16 Y_X3_isNone [1, 2] [] (c_X3_isNone E _ _ _ _ _ _ _ _ _ (by exact ⟨by omega, by omega⟩)) m_X3_isNone wml_X6_125 dX6_keep_13 0 rfl rfl rfl rfl rfl rfl rfl rfl rfl rfl ?_
    refine j_bif_eq 22 19 dX6_keep_16 (fun q16 => ?_) (fun q16 => ?_)
    · omega
    · refine j_bipush 21 dX6_keep_19 (by decide +kernel) ?_
      obtain rfl : c = -2 := by omega
      exact j_iret dX6_keep_21 rfl rfl ⟨rfl, rfl⟩
  · omega

set_option maxRecDepth 100000 in
set_option maxHeartbeats 4000000 in
theorem c_X6_keep_ok (E : jD) (h0 : Nat) (h1 : Nat) (x0 : Nat) (g0 : Nat) (h10 : Nat) (y0 : Nat) (h42 : Nat) (x1 : Nat) (x2 : Nat) (x3 : Nat) (x4 : Nat) (x6 : Nat) (k0 : Nat) (k1 : Nat) (k2 : Nat) (fnd : Int) (ask : Int) (wd : Int) (bl : Int) (kw : Int) (kn : Int) (ia : Nat → Option Nat) (f : Nat → Int32) (kf : Nat → Int32) (k n : Nat) (hk2 : k < 2) (hia : ia k = some k0) (hn : n ≤ 48) : MC E Y_X6_keep [.ref h0, .int (iI (k : Int))] [(h0, jO 6 [.ref h1, .ref x0, .ref g0, .ref h10, .ref y0, .ref h42, .int (iI fnd), .int (iI ask)]), (h10, jR E 3 2 ia), (k0, jO 2 [.ref k1, .int (iI kw)]), (k1, jO 4 [.ref k2, .int (iI kn)]), (k2, jA E 48 kf), (x0, jO 3 [.ref x1, .ref x3, .ref x4, .ref x6, .int (iI wd), .int (iI bl)]), (x1, jO 4 [.ref x2, .int (iI (n : Int))]), (x2, jA E 48 f)] (fun rr N0 => rr = some (.int (iI ((n : Int)))) ∧ N0 = [(h0, jO 6 [.ref h1, .ref x0, .ref g0, .ref h10, .ref y0, .ref h42, .int (iI fnd), .int (iI ask)]), (h10, jR E 3 2 ia), (k0, jO 2 [.ref k1, .int (iI wd)]), (k1, jO 4 [.ref k2, .int (iI (n : Int))]), (k2, jA E 48 (va_cpy f kf 0 0 48)), (x0, jO 3 [.ref x1, .ref x3, .ref x4, .ref x6, .int (iI wd), .int (iI bl)]), (x1, jO 4 [.ref x2, .int (iI (n : Int))]), (x2, jA E 48 f)]) := by
  refine MC.of (by decide) rfl rfl ?_
  refine j_iload_1 1 dX6_keep_0 rfl ?_
  refine j_callSi 4 Y_X6_isNoImage [] [_] (c_X6_isNoImage E _ (by first | with_reducible assumption | exact ⟨by omega, by omega⟩)) m_X6_isNoImage wml_X6_122 dX6_keep_1 rfl rfl rfl rfl rfl rfl rfl ?_
  refine j_bif_eq 9 7 dX6_keep_4 (fun q4 => ?_) (fun q4 => ?_)
  · refine j_aload_0 10 dX6_keep_9 rfl ?_
    refine j_get 13 0 gf_X6_26 dX6_keep_10 rfl rfl ?_
    refine j_callVi 16 Y_X3_isNone [5, 6] [] (c_X3_isNone E _ _ _ _ _ _ _ _ _ (by exact ⟨by omega, by omega⟩)) m_X3_isNone wml_X6_125 dX6_keep_13 0 rfl rfl rfl rfl rfl rfl rfl rfl rfl rfl ?_
    refine j_bif_eq 22 19 dX6_keep_16 (fun q16 => ?_) (fun q16 => ?_)
    · refine j_aload_0 23 dX6_keep_22 rfl ?_
      refine j_get 26 0 gf_X6_18 dX6_keep_23 rfl rfl ?_
      refine j_iload_1 27 dX6_keep_26 rfl ?_
      refine j_aald3 28 1 _ k0 dX6_keep_27 rfl rfl rfl (by omega) hia ?_
      refine j_get 31 2 gf_X6_128 dX6_keep_28 rfl rfl ?_
      refine j_aload_0 32 dX6_keep_31 rfl ?_
      refine j_get 35 0 gf_X6_26 dX6_keep_32 rfl rfl ?_
      refine j_get 38 5 gf_X6_104 dX6_keep_35 rfl rfl ?_
      refine j_callV 41 Y_X4_become [3, 4, 6, 7] [_] (c_X4_become E _ _ _ _ _ _ _ _) m_X4_become wml_X6_129 dX6_keep_38 0 rfl rfl rfl rfl rfl rfl rfl rfl rfl (fun r N h => by obtain ⟨rfl, rfl⟩ := h; rfl) (fun r N h => ?_)
      obtain ⟨rfl, rfl⟩ := h
      refine j_aload_0 42 dX6_keep_41 rfl ?_
      refine j_get 45 0 gf_X6_18 dX6_keep_42 rfl rfl ?_
      refine j_iload_1 46 dX6_keep_45 rfl ?_
      refine j_aald3 47 1 _ k0 dX6_keep_46 rfl rfl rfl (by omega) hia ?_
      refine j_aload_0 48 dX6_keep_47 rfl ?_
      refine j_get 51 0 gf_X6_26 dX6_keep_48 rfl rfl ?_
      refine j_get 54 5 gf_X6_133 dX6_keep_51 rfl rfl ?_
      refine j_put 57 2 pf_X6_136 dX6_keep_54 rfl ⟨rfl, rfl, rfl⟩ ?_
      refine j_aload_0 58 dX6_keep_57 rfl ?_
      refine j_get 61 0 gf_X6_26 dX6_keep_58 rfl rfl ?_
      refine j_get 64 5 gf_X6_104 dX6_keep_61 rfl rfl ?_
      refine j_get 67 6 gf_X6_78 dX6_keep_64 rfl rfl ?_
      exact j_iret dX6_keep_67 rfl rfl ⟨rfl, rfl⟩
    · omega
  · omega

set_option maxRecDepth 100000 in
set_option maxHeartbeats 4000000 in
theorem c_X6_on_no (E : jD) (h0 : Nat) (h1 : Nat) (x0 : Nat) (g0 : Nat) (h10 : Nat) (y0 : Nat) (h42 : Nat) (k0 : Nat) (k1 : Nat) (k2 : Nat) (fnd : Int) (ask : Int) (kw : Int) (kn : Int) (ia : Nat → Option Nat) (k : Nat) (c : Int) (hk2 : k < 2) (hia : ia k = some k0) (hn : kn = -1) (hc : c = -2) : MC E Y_X6_on [.ref h0, .int (iI (k : Int))] [(h0, jO 6 [.ref h1, .ref x0, .ref g0, .ref h10, .ref y0, .ref h42, .int (iI fnd), .int (iI ask)]), (h10, jR E 3 2 ia), (k0, jO 2 [.ref k1, .int (iI kw)]), (k1, jO 4 [.ref k2, .int (iI kn)])] (fun rr N0 => rr = some (.int (iI (rz c))) ∧ N0 = [(h0, jO 6 [.ref h1, .ref x0, .ref g0, .ref h10, .ref y0, .ref h42, .int (iI fnd), .int (iI ask)]), (h10, jR E 3 2 ia), (k0, jO 2 [.ref k1, .int (iI kw)]), (k1, jO 4 [.ref k2, .int (iI kn)])]) := by
  refine MC.of (by decide) rfl rfl ?_
  refine j_iload_1 1 dX6_on_0 rfl ?_
  refine j_callSi 4 Y_X6_isNoImage [] [_] (c_X6_isNoImage E _ (by first | with_reducible assumption | exact ⟨by omega, by omega⟩)) m_X6_isNoImage wml_X6_122 dX6_on_1 rfl rfl rfl rfl rfl rfl rfl ?_
  refine j_bif_eq 9 7 dX6_on_4 (fun q4 => ?_) (fun q4 => ?_)
  · refine j_aload_0 10 dX6_on_9 rfl ?_
    refine j_get 13 0 gf_X6_18 dX6_on_10 rfl rfl ?_
    refine j_iload_1 14 dX6_on_13 rfl ?_
    refine j_aald3 15 1 _ k0 dX6_on_14 rfl rfl rfl (by omega) hia ?_
    refine j_get 18 2 gf_X6_128 dX6_on_15 rfl rfl ?_
    refine j_callVi 21 Y_X4_isMissing [3] [] (c_X4_isMissing E _ _ _ (by exact ⟨by omega, by omega⟩)) m_X4_isMissing wml_X6_74 dX6_on_18 0 rfl rfl rfl rfl rfl rfl rfl rfl rfl rfl ?_
    refine j_bif_eq 27 24 dX6_on_21 (fun q21 => ?_) (fun q21 => ?_)
    · omega
    · refine j_bipush 26 dX6_on_24 (by decide +kernel) ?_
      obtain rfl : c = -2 := by omega
      exact j_iret dX6_on_26 rfl rfl ⟨rfl, rfl⟩
  · omega

set_option maxRecDepth 100000 in
set_option maxHeartbeats 4000000 in
theorem c_X6_on_ok (E : jD) (h0 : Nat) (h1 : Nat) (x0 : Nat) (g0 : Nat) (h10 : Nat) (y0 : Nat) (h42 : Nat) (x1 : Nat) (x2 : Nat) (x3 : Nat) (x4 : Nat) (x5 : Nat) (x6 : Nat) (g1 : Nat) (g2 : Nat) (k0 : Nat) (k1 : Nat) (k2 : Nat) (fnd : Int) (ask : Int) (wd : Int) (bl : Int) (n : Int) (mm : Int) (um : Int) (ia : Nat → Option Nat) (f : Nat → Int32) (sh : Nat → Int32) (pl : Nat → Int32) (hp : Nat → Int32) (hq : Nat → Int32) (kf : Nat → Int32) (w : Nat → Int64) (k q n2 : Nat) (hk2 : k < 2) (hia : ia k = some k0) (hN : 1 ≤ n2 ∧ n2 ≤ 48) (hq6 : 1 ≤ q ∧ q ≤ 6) : MC E Y_X6_on [.ref h0, .int (iI (k : Int))] [(h0, jO 6 [.ref h1, .ref x0, .ref g0, .ref h10, .ref y0, .ref h42, .int (iI fnd), .int (iI ask)]), (h10, jR E 3 2 ia), (k0, jO 2 [.ref k1, .int (iI (q : Int))]), (k1, jO 4 [.ref k2, .int (iI (n2 : Int))]), (k2, jA E 48 kf), (x0, jO 3 [.ref x1, .ref x3, .ref x4, .ref x6, .int (iI wd), .int (iI bl)]), (x1, jO 4 [.ref x2, .int (iI n)]), (x2, jA E 48 f), (x3, jA E 48 sh), (x4, jO 5 [.ref x5, .int (iI mm)]), (x5, jL E 64 w), (x6, jA E 6 pl), (g0, jO 1 [.ref g1, .ref g2, .int (iI um)]), (g1, jA E 10 hp), (g2, jA E 10 hq)] (fun rr N0 => ∃ pl2, rr = some (.int (iI (n2 : Int))) ∧ N0 = [(h0, jO 6 [.ref h1, .ref x0, .ref g0, .ref h10, .ref y0, .ref h42, .int (iI fnd), .int (iI ask)]), (h10, jR E 3 2 ia), (k0, jO 2 [.ref k1, .int (iI (q : Int))]), (k1, jO 4 [.ref k2, .int (iI (n2 : Int))]), (k2, jA E 48 kf), (x0, jO 3 [.ref x1, .ref x3, .ref x4, .ref x6, .int (iI (q : Int)), .int (iI ((nB n2 q : Nat) : Int))]), (x1, jO 4 [.ref x2, .int (iI (n2 : Int))]), (x2, jA E 48 (va_cpy kf f 0 0 48)), (x3, jA E 48 (shU sh (tI (va_cpy kf f 0 0 48)) n2 q (nB n2 q))), (x4, jO 5 [.ref x5, .int (iI (inB (tI (va_cpy kf f 0 0 48)) n2 q (fa 0 64 w) (nB n2 q)).2)]), (x5, jL E 64 (inB (tI (va_cpy kf f 0 0 48)) n2 q (fa 0 64 w) (nB n2 q)).1), (x6, jA E 6 pl2), (g0, jO 1 [.ref g1, .ref g2, .int (iI 0)]), (g1, jA E 10 hp), (g2, jA E 10 hq)]) := by
  refine MC.of (by decide) rfl rfl ?_
  refine j_iload_1 1 dX6_on_0 rfl ?_
  refine j_callSi 4 Y_X6_isNoImage [] [_] (c_X6_isNoImage E _ (by first | with_reducible assumption | exact ⟨by omega, by omega⟩)) m_X6_isNoImage wml_X6_122 dX6_on_1 rfl rfl rfl rfl rfl rfl rfl ?_
  refine j_bif_eq 9 7 dX6_on_4 (fun q4 => ?_) (fun q4 => ?_)
  · refine j_aload_0 10 dX6_on_9 rfl ?_
    refine j_get 13 0 gf_X6_18 dX6_on_10 rfl rfl ?_
    refine j_iload_1 14 dX6_on_13 rfl ?_
    refine j_aald3 15 1 _ k0 dX6_on_14 rfl rfl rfl (by omega) hia ?_
    refine j_get 18 2 gf_X6_128 dX6_on_15 rfl rfl ?_
    refine j_callVi 21 Y_X4_isMissing [3] [] (c_X4_isMissing E _ _ _ (by exact ⟨by omega, by omega⟩)) m_X4_isMissing wml_X6_74 dX6_on_18 0 rfl rfl rfl rfl rfl rfl rfl rfl rfl rfl ?_
    refine j_bif_eq 27 24 dX6_on_21 (fun q21 => ?_) (fun q21 => ?_)
    · refine j_aload_0 28 dX6_on_27 rfl ?_
      refine j_get 31 0 gf_X6_26 dX6_on_28 rfl rfl ?_
      refine j_aload_0 32 dX6_on_31 rfl ?_
      refine j_get 35 0 gf_X6_18 dX6_on_32 rfl rfl ?_
      refine j_iload_1 36 dX6_on_35 rfl ?_
      refine j_aald3 37 1 _ k0 dX6_on_36 rfl rfl rfl (by omega) hia ?_
      refine j_get 40 2 gf_X6_128 dX6_on_37 rfl rfl ?_
      refine j_aload_0 41 dX6_on_40 rfl ?_
      refine j_get 44 0 gf_X6_18 dX6_on_41 rfl rfl ?_
      refine j_iload_1 45 dX6_on_44 rfl ?_
      refine j_aald3 46 1 _ k0 dX6_on_45 rfl rfl rfl (by omega) hia ?_
      refine j_get 49 2 gf_X6_136 dX6_on_46 rfl rfl ?_
      refine j_callV 52 Y_X3_becomeOver [5, 6, 7, 8, 9, 10, 11, 3, 4] [_, _] (c_X3_becomeOver E _ _ _ _ _ _ _ _ _ _ _ _ _ _ _ _ _ _ _ _ hq6 (by omega)) m_X3_becomeOver wml_X6_91 dX6_on_49 0 rfl rfl rfl rfl rfl rfl rfl rfl rfl (fun r N h => by obtain ⟨_, rfl, rfl⟩ := h; rfl) (fun r N h => ?_)
      obtain ⟨pl2, rfl, rfl⟩ := h
      refine j_eqM (M' := [(h0, jO 6 [.ref h1, .ref x0, .ref g0, .ref h10, .ref y0, .ref h42, .int (iI fnd), .int (iI ask)]), (h10, jR E 3 2 ia), (k0, jO 2 [.ref k1, .int (iI (q : Int))]), (k1, jO 4 [.ref k2, .int (iI (n2 : Int))]), (k2, jA E 48 kf), (x0, jO 3 [.ref x1, .ref x3, .ref x4, .ref x6, .int (iI (q : Int)), .int (iI ((nB n2 q : Nat) : Int))]), (x1, jO 4 [.ref x2, .int (iI (n2 : Int))]), (x2, jA E 48 (va_cpy kf f 0 0 48)), (x3, jA E 48 (shU sh (tI (va_cpy kf f 0 0 48)) n2 q (nB n2 q))), (x4, jO 5 [.ref x5, .int (iI (inB (tI (va_cpy kf f 0 0 48)) n2 q (fa 0 64 w) (nB n2 q)).2)]), (x5, jL E 64 (inB (tI (va_cpy kf f 0 0 48)) n2 q (fa 0 64 w) (nB n2 q)).1), (x6, jA E 6 pl2), (g0, jO 1 [.ref g1, .ref g2, .int (iI um)]), (g1, jA E 10 hp), (g2, jA E 10 hq)]) rfl ?_
      refine j_aload_0 53 dX6_on_52 rfl ?_
      refine j_get 56 0 gf_X6_33 dX6_on_53 rfl rfl ?_
      refine j_callV 59 Y_X1_forget [12, 13, 14] [] (c_X1_forget E _ _ _ _ _ _) m_X1_forget wml_X6_95 dX6_on_56 0 rfl rfl rfl rfl rfl rfl rfl rfl rfl (fun r N h => by obtain ⟨rfl, rfl⟩ := h; rfl) (fun r N h => ?_)
      obtain ⟨rfl, rfl⟩ := h
      refine j_aload_0 60 dX6_on_59 rfl ?_
      refine j_get 63 0 gf_X6_26 dX6_on_60 rfl rfl ?_
      refine j_get 66 5 gf_X6_104 dX6_on_63 rfl rfl ?_
      refine j_get 69 6 gf_X6_78 dX6_on_66 rfl rfl ?_
      exact j_iret dX6_on_69 rfl rfl ⟨pl2, rfl, rfl⟩
    · omega
  · omega
