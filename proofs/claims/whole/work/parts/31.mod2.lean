set_option maxRecDepth 100000 in
set_option maxHeartbeats 4000000 in
theorem lp7_shapeOf_in (E : jD) (fnd : Int) (ask : Int) (wd : Int) (n : Int) (mm : Int) (um : Int) (nd : Int) (m0 : Nat) (m1 : Nat) (m2 : Nat) (m3 : Nat) (m4 : Nat) (m5 : Nat) (m6 : Nat) (m7 : Nat) (m8 : Nat) (m9 : Nat) (m10 : Nat) (m11 : Nat) (m12 : Nat) (thr : Int) (pal : Int) (it : Nat → Int32) (pi : Nat → Int32) (Z : jZ) (fr len c : Nat) (hc : fr + c < 48) : ∀ (P : List Int) (m : Nat), pileIs pi P → P.length ≤ 48 →
    J E Y_X7_shapeOf Z 0 0 61 [(0, .ref m0), (1, .int (iI (fr : Int))), (2, .int (iI ((fr + len : Nat) : Int))), (3, .int (iI (((popF ((tI it) (fr + c)) P m).2 : Nat) : Int))), (4, .int (iI ((fr + c : Nat) : Int)))] [] [(m0, jO 7 [.int (iI thr), .int (iI ask), .int (iI fnd), .ref m1, .ref m2, .ref m3, .int (iI n), .int (iI wd), .ref m4, .ref m5, .int (iI mm), .ref m6, .ref m7, .int (iI um), .ref m8, .ref m9, .ref m10, .ref m11, .int (iI ((popF ((tI it) (fr + c)) P m).1.length : Nat)), .int (iI nd), .ref m12, .int (iI pal)]), (m4, jA E 48 it), (m11, jA E 48 pi)] → J E Y_X7_shapeOf Z 0 0 16 [(0, .ref m0), (1, .int (iI (fr : Int))), (2, .int (iI ((fr + len : Nat) : Int))), (3, .int (iI (m : Int))), (4, .int (iI ((fr + c : Nat) : Int)))] [] [(m0, jO 7 [.int (iI thr), .int (iI ask), .int (iI fnd), .ref m1, .ref m2, .ref m3, .int (iI n), .int (iI wd), .ref m4, .ref m5, .int (iI mm), .ref m6, .ref m7, .int (iI um), .ref m8, .ref m9, .ref m10, .ref m11, .int (iI ((P.length : Nat) : Int)), .int (iI nd), .ref m12, .int (iI pal)]), (m4, jA E 48 it), (m11, jA E 48 pi)] := by
  intro P
  induction P with
  | nil =>
    intro m hp hl kk
    refine j_aload_0 17 dX7_shapeOf_16 rfl ?_
    refine j_get 20 0 gf_X7_84 dX7_shapeOf_17 rfl rfl ?_
    refine j_if_le 61 23 dX7_shapeOf_20 (by first | with_reducible exact iI_rng _ | with_reducible exact bI_r _ | exact ⟨by omega, by omega⟩) (fun q20 => ?_) (fun q20 => ?_)
    · exact kk
    · exact absurd (show ((List.length ([] : List Int) : Nat) : Int) ≤ 0 from by simp) q20
  | cons t P ih =>
    intro m hp hl kk
    rw [List.length_cons] at hl
    refine j_aload_0 17 dX7_shapeOf_16 rfl ?_
    refine j_get 20 0 gf_X7_84 dX7_shapeOf_17 rfl rfl ?_
    refine j_if_le 61 23 dX7_shapeOf_20 (by rw [List.length_cons]; exact ⟨by omega, by omega⟩) (fun q20 => ?_) (fun q20 => ?_)
    · rw [List.length_cons] at q20; omega
    · refine j_aload_0 24 dX7_shapeOf_23 rfl ?_
      refine j_get 27 0 gf_X7_40 dX7_shapeOf_24 rfl rfl ?_
      refine j_aload_0 28 dX7_shapeOf_27 rfl ?_
      refine j_get 31 0 gf_X7_84 dX7_shapeOf_28 rfl rfl ?_
      refine j_iconst 32 dX7_shapeOf_31 ?_
      refine j_isub 33 dX7_shapeOf_32 ?_
      refine j_ialdw 34 2 (P.length) (t) dX7_shapeOf_33 rfl rfl (by rw [List.length_cons]; omega) (by omega) (by rw [← hp.1, iI_x]) ?_
      refine j_aload_0 35 dX7_shapeOf_34 rfl ?_
      refine j_get 38 0 gf_X7_19 dX7_shapeOf_35 rfl rfl ?_
      refine j_iload 40 dX7_shapeOf_38 rfl ?_
      refine j_iald 41 1 _ dX7_shapeOf_40 rfl rfl rfl (by omega) ?_
      refine j_icmp_le 61 44 dX7_shapeOf_41 (by rw [← hp.1]; exact iI_rng _) (by first | with_reducible exact iI_rng _ | with_reducible exact bI_r _ | exact ⟨by omega, by omega⟩) (fun q41 => ?_) (fun q41 => ?_)
      · have e : popF ((tI it) (fr + c)) (t :: P) m = (t :: P, m) := if_neg (by show ¬ (it (fr + c)).toInt < t; omega)
        rw [e] at kk
        exact kk
      · have e : popF ((tI it) (fr + c)) (t :: P) m = popF ((tI it) (fr + c)) P (2 * m) := if_pos (by show (it (fr + c)).toInt < t; omega)
        rw [e] at kk
        refine j_aload_0 45 dX7_shapeOf_44 rfl ?_
        refine j_dup 46 dX7_shapeOf_45 rfl ?_
        refine j_get 49 0 gf_X7_84 dX7_shapeOf_46 rfl rfl ?_
        refine j_iconst 50 dX7_shapeOf_49 ?_
        refine j_isub 51 dX7_shapeOf_50 ?_
        refine j_put 54 0 pf_X7_84 dX7_shapeOf_51 rfl ⟨rfl, rfl, rfl⟩ ?_
        refine j_iload_3 55 dX7_shapeOf_54 rfl ?_
        refine j_iconst 56 dX7_shapeOf_55 ?_
        refine j_imul 57 dX7_shapeOf_56 ?_
        refine j_istore_3 58 (lv' := [(0, _), (1, _), (2, _), (3, _), (4, _)]) dX7_shapeOf_57 rfl ⟨rfl, rfl⟩ ?_
        refine j_goto 16 dX7_shapeOf_58 ?_
        refine j_eqM (M' := [(m0, jO 7 [.int (iI thr), .int (iI ask), .int (iI fnd), .ref m1, .ref m2, .ref m3, .int (iI n), .int (iI wd), .ref m4, .ref m5, .int (iI mm), .ref m6, .ref m7, .int (iI um), .ref m8, .ref m9, .ref m10, .ref m11, .int (iI ((P.length : Nat) : Int)), .int (iI nd), .ref m12, .int (iI pal)]), (m4, jA E 48 it), (m11, jA E 48 pi)]) (by rw [List.length_cons, show ((P.length + 1 : Nat) : Int) - 1 = (P.length : Int) by omega]; rfl) ?_
        refine j_eqL (lv' := [(0, .ref m0), (1, .int (iI (fr : Int))), (2, .int (iI ((fr + len : Nat) : Int))), (3, .int (iI (((2 * m : Nat) : Int) : Int))), (4, .int (iI ((fr + c : Nat) : Int)))]) (by rw [show ((m : Nat) : Int) * 2 = ((2 * m : Nat) : Int) by omega]) ?_
        exact ih (2 * m) hp.2 (by omega) kk

set_option maxRecDepth 100000 in
set_option maxHeartbeats 4000000 in
theorem lp7_shapeOf (E : jD) (fnd : Int) (ask : Int) (wd : Int) (n : Int) (mm : Int) (um : Int) (nd : Int) (m0 : Nat) (m1 : Nat) (m2 : Nat) (m3 : Nat) (m4 : Nat) (m5 : Nat) (m6 : Nat) (m7 : Nat) (m8 : Nat) (m9 : Nat) (m10 : Nat) (m11 : Nat) (m12 : Nat) (thr : Int) (pal : Int) (it : Nat → Int32) (fr len : Nat) (hl : fr + len ≤ 48) : ∀ (d : Nat) (c : Nat) (pi : Nat → Int32), len - c < d → (c ≤ len) → (pileIs pi (shG (tI it) fr c).1) → J E Y_X7_shapeOf (jZm E Y_X7_shapeOf (fun rr N0 => ∃ pd2 pi2, rr = some (.int (iI ((shG (tI it) fr len).2 : Nat))) ∧ N0 = [(m0, jO 7 [.int (iI thr), .int (iI ask), .int (iI fnd), .ref m1, .ref m2, .ref m3, .int (iI n), .int (iI wd), .ref m4, .ref m5, .int (iI mm), .ref m6, .ref m7, .int (iI um), .ref m8, .ref m9, .ref m10, .ref m11, .int (iI pd2), .int (iI nd), .ref m12, .int (iI pal)]), (m4, jA E 48 it), (m11, jA E 48 pi2)])) 0 0 10 [(0, .ref m0), (1, .int (iI (fr : Int))), (2, .int (iI ((fr + len : Nat) : Int))), (3, .int (iI (((shG (tI it) fr c).2 : Nat) : Int))), (4, .int (iI ((fr + c : Nat) : Int)))] [] [(m0, jO 7 [.int (iI thr), .int (iI ask), .int (iI fnd), .ref m1, .ref m2, .ref m3, .int (iI n), .int (iI wd), .ref m4, .ref m5, .int (iI mm), .ref m6, .ref m7, .int (iI um), .ref m8, .ref m9, .ref m10, .ref m11, .int (iI ((shG (tI it) fr c).1.length : Nat)), .int (iI nd), .ref m12, .int (iI pal)]), (m4, jA E 48 it), (m11, jA E 48 pi)] := by
  intro d
  induction d with
  | zero => intros; omega
  | succ d ih =>
    intro c pi hd hc hp
    have hs := shG_len (tI it) fr c
    refine j_iload 12 dX7_shapeOf_10 rfl ?_
    refine j_iload_2 13 dX7_shapeOf_12 rfl ?_
    refine j_icmp_ge 99 16 dX7_shapeOf_13 (by first | with_reducible exact iI_rng _ | with_reducible exact bI_r _ | exact ⟨by omega, by omega⟩) (by first | with_reducible exact iI_rng _ | with_reducible exact bI_r _ | exact ⟨by omega, by omega⟩) (fun q13 => ?_) (fun q13 => ?_)
    · have e : c = len := by omega
      subst e
      refine j_iload_3 100 dX7_shapeOf_99 rfl ?_
      exact j_iret dX7_shapeOf_100 rfl rfl ⟨_, pi, rfl, rfl⟩
    · refine lp7_shapeOf_in E fnd ask wd n mm um nd m0 m1 m2 m3 m4 m5 m6 m7 m8 m9 m10 m11 m12 thr pal it pi _ fr len c (by omega) _ _ hp (by omega) ?_
      have hq := popF_len ((tI it) (fr + c)) (shG (tI it) fr c).1 (shG (tI it) fr c).2
      refine j_aload_0 62 dX7_shapeOf_61 rfl ?_
      refine j_get 65 0 gf_X7_40 dX7_shapeOf_62 rfl rfl ?_
      refine j_aload_0 66 dX7_shapeOf_65 rfl ?_
      refine j_get 69 0 gf_X7_84 dX7_shapeOf_66 rfl rfl ?_
      refine j_aload_0 70 dX7_shapeOf_69 rfl ?_
      refine j_get 73 0 gf_X7_19 dX7_shapeOf_70 rfl rfl ?_
      refine j_iload 75 dX7_shapeOf_73 rfl ?_
      refine j_ialdx 76 1 _ dX7_shapeOf_75 rfl rfl rfl (by omega) ?_
      refine j_iast 77 2 ((popF ((tI it) (fr + c)) (shG (tI it) fr c).1 (shG (tI it) fr c).2).1.length) dX7_shapeOf_76 rfl rfl rfl (by omega) ?_
      refine j_aload_0 78 dX7_shapeOf_77 rfl ?_
      refine j_dup 79 dX7_shapeOf_78 rfl ?_
      refine j_get 82 0 gf_X7_84 dX7_shapeOf_79 rfl rfl ?_
      refine j_iconst 83 dX7_shapeOf_82 ?_
      refine j_iadd 84 dX7_shapeOf_83 ?_
      refine j_put 87 0 pf_X7_84 dX7_shapeOf_84 rfl ⟨rfl, rfl, rfl⟩ ?_
      refine j_iconst 88 dX7_shapeOf_87 ?_
      refine j_iload_3 89 dX7_shapeOf_88 rfl ?_
      refine j_imul 90 dX7_shapeOf_89 ?_
      refine j_iconst 91 dX7_shapeOf_90 ?_
      refine j_iadd 92 dX7_shapeOf_91 ?_
      refine j_istore_3 93 (lv' := [(0, _), (1, _), (2, _), (3, _), (4, _)]) dX7_shapeOf_92 rfl ⟨rfl, rfl⟩ ?_
      refine j_iinc 96 (lv' := [(0, _), (1, _), (2, _), (3, _), (4, _)]) dX7_shapeOf_93 rfl rfl ⟨rfl, rfl⟩ ?_
      refine j_goto 10 dX7_shapeOf_96 ?_
      refine ih (c + 1) _ (by omega) (by omega) ?_
      exact pileIs_push (x := it (fr + c)) (pileIs_pop _ hp)

set_option maxRecDepth 100000 in
set_option maxHeartbeats 4000000 in
theorem c_X7_shapeOf (E : jD) (fnd : Int) (ask : Int) (wd : Int) (n : Int) (mm : Int) (um : Int) (nd : Int) (m0 : Nat) (m1 : Nat) (m2 : Nat) (m3 : Nat) (m4 : Nat) (m5 : Nat) (m6 : Nat) (m7 : Nat) (m8 : Nat) (m9 : Nat) (m10 : Nat) (m11 : Nat) (m12 : Nat) (thr : Int) (pd : Int) (pal : Int) (it : Nat → Int32) (pi : Nat → Int32) (fr len : Nat) (hl : fr + len ≤ 48) : MC E Y_X7_shapeOf [.ref m0, .int (iI (fr : Int)), .int (iI ((fr + len : Nat) : Int))] [(m0, jO 7 [.int (iI thr), .int (iI ask), .int (iI fnd), .ref m1, .ref m2, .ref m3, .int (iI n), .int (iI wd), .ref m4, .ref m5, .int (iI mm), .ref m6, .ref m7, .int (iI um), .ref m8, .ref m9, .ref m10, .ref m11, .int (iI pd), .int (iI nd), .ref m12, .int (iI pal)]), (m4, jA E 48 it), (m11, jA E 48 pi)] (fun rr N0 => ∃ pd2 pi2, rr = some (.int (iI ((shG (tI it) fr len).2 : Nat))) ∧ N0 = [(m0, jO 7 [.int (iI thr), .int (iI ask), .int (iI fnd), .ref m1, .ref m2, .ref m3, .int (iI n), .int (iI wd), .ref m4, .ref m5, .int (iI mm), .ref m6, .ref m7, .int (iI um), .ref m8, .ref m9, .ref m10, .ref m11, .int (iI pd2), .int (iI nd), .ref m12, .int (iI pal)]), (m4, jA E 48 it), (m11, jA E 48 pi2)]) := by
  refine MC.of (by decide) rfl rfl ?_
  refine j_iconst 1 dX7_shapeOf_0 ?_
  refine j_istore_3 2 (lv' := [(0, _), (1, _), (2, _), (3, _)]) dX7_shapeOf_1 rfl ⟨rfl, rfl⟩ ?_
  refine j_aload_0 3 dX7_shapeOf_2 rfl ?_
  refine j_iconst 4 dX7_shapeOf_3 ?_
  refine j_put 7 0 pf_X7_84 dX7_shapeOf_4 rfl ⟨rfl, rfl, rfl⟩ ?_
  refine j_iload_1 8 dX7_shapeOf_7 rfl ?_
  refine j_istore 10 (lv' := [(0, _), (1, _), (2, _), (3, _), (4, _)]) dX7_shapeOf_8 rfl ⟨rfl, rfl⟩ ?_
  exact lp7_shapeOf E fnd ask wd n mm um nd m0 m1 m2 m3 m4 m5 m6 m7 m8 m9 m10 m11 m12 thr pal it fr len hl (len + 1) 0 pi (by omega) (by omega) trivial

set_option maxRecDepth 100000 in
set_option maxHeartbeats 4000000 in
theorem c_X7_shapeOfBlock (E : jD) (fnd : Int) (ask : Int) (mm : Int) (um : Int) (nd : Int) (m0 : Nat) (m1 : Nat) (m2 : Nat) (m3 : Nat) (m4 : Nat) (m5 : Nat) (m6 : Nat) (m7 : Nat) (m8 : Nat) (m9 : Nat) (m10 : Nat) (m11 : Nat) (m12 : Nat) (thr : Int) (pd : Int) (pal : Int) (it : Nat → Int32) (pi : Nat → Int32) (n wd b : Nat) (hw : 1 ≤ wd ∧ wd ≤ 6) (hn : n ≤ 48) (hb : b * wd ≤ n) (hbb : b ≤ 48) : MC E Y_X7_shapeOfBlock [.ref m0, .int (iI (b : Int))] [(m0, jO 7 [.int (iI thr), .int (iI ask), .int (iI fnd), .ref m1, .ref m2, .ref m3, .int (iI (n : Int)), .int (iI (wd : Int)), .ref m4, .ref m5, .int (iI mm), .ref m6, .ref m7, .int (iI um), .ref m8, .ref m9, .ref m10, .ref m11, .int (iI pd), .int (iI nd), .ref m12, .int (iI pal)]), (m4, jA E 48 it), (m11, jA E 48 pi)] (fun rr N0 => ∃ pd2 pi2, rr = some (.int (iI ((shB (tI it) n wd b : Nat) : Int))) ∧ N0 = [(m0, jO 7 [.int (iI thr), .int (iI ask), .int (iI fnd), .ref m1, .ref m2, .ref m3, .int (iI (n : Int)), .int (iI (wd : Int)), .ref m4, .ref m5, .int (iI mm), .ref m6, .ref m7, .int (iI um), .ref m8, .ref m9, .ref m10, .ref m11, .int (iI pd2), .int (iI nd), .ref m12, .int (iI pal)]), (m4, jA E 48 it), (m11, jA E 48 pi2)]) := by
  refine MC.of (by decide) rfl rfl ?_
  refine j_iload_1 1 dX7_shapeOfBlock_0 rfl ?_
  refine j_aload_0 2 dX7_shapeOfBlock_1 rfl ?_
  refine j_get 5 0 gf_X7_78 dX7_shapeOfBlock_2 rfl rfl ?_
  refine j_imul 6 dX7_shapeOfBlock_5 ?_
  refine j_top ((b * wd : Nat) : Int) rfl ?_
  generalize hfr : b * wd = fr at hb ⊢
  refine j_istore_2 7 (lv' := [(0, _), (1, _), (2, _)]) dX7_shapeOfBlock_6 rfl ⟨rfl, rfl⟩ ?_
  refine j_iload_2 8 dX7_shapeOfBlock_7 rfl ?_
  refine j_aload_0 9 dX7_shapeOfBlock_8 rfl ?_
  refine j_get 12 0 gf_X7_78 dX7_shapeOfBlock_9 rfl rfl ?_
  refine j_iadd 13 dX7_shapeOfBlock_12 ?_
  refine j_aload_0 14 dX7_shapeOfBlock_13 rfl ?_
  refine j_get 17 0 gf_X7_81 dX7_shapeOfBlock_14 rfl rfl ?_
  refine j_icmp_ge 29 20 dX7_shapeOfBlock_17 (by first | with_reducible exact iI_rng _ | with_reducible exact bI_r _ | exact ⟨by omega, by omega⟩) (by first | with_reducible exact iI_rng _ | with_reducible exact bI_r _ | exact ⟨by omega, by omega⟩) (fun q17 => ?_) (fun q17 => ?_)
  · have hlen : min wd (n - fr) = n - fr := by omega
    refine j_aload_0 30 dX7_shapeOfBlock_29 rfl ?_
    refine j_get 33 0 gf_X7_81 dX7_shapeOfBlock_30 rfl rfl ?_
    refine j_top ((fr + min wd (n - fr) : Nat) : Int) (congrArg iI (by omega)) ?_
    refine j_istore_3 34 (lv' := [(0, _), (1, _), (2, _), (3, _)]) dX7_shapeOfBlock_33 rfl ⟨rfl, rfl⟩ ?_
    refine j_aload_0 35 dX7_shapeOfBlock_34 rfl ?_
    refine j_iload_2 36 dX7_shapeOfBlock_35 rfl ?_
    refine j_iload_3 37 dX7_shapeOfBlock_36 rfl ?_
    refine j_callV 40 Y_X7_shapeOf [0, 1, 2] [_, _] (c_X7_shapeOf E _ _ _ _ _ _ _ _ _ _ _ _ _ _ _ _ _ _ _ _ _ _ _ _ _ fr (min wd (n - fr)) (by omega)) m_X7_shapeOf wml_X7_87 dX7_shapeOfBlock_37 0 rfl rfl rfl rfl rfl rfl rfl rfl rfl (fun r N h => by obtain ⟨_, _, rfl, rfl⟩ := h; rfl) (fun r N h => ?_)
    obtain ⟨pd2, pi2, rfl, rfl⟩ := h
    exact j_iret dX7_shapeOfBlock_40 rfl rfl ⟨pd2, pi2, by rw [← hfr]; rfl, rfl⟩
  · have hlen : min wd (n - fr) = wd := by omega
    refine j_iload_2 21 dX7_shapeOfBlock_20 rfl ?_
    refine j_aload_0 22 dX7_shapeOfBlock_21 rfl ?_
    refine j_get 25 0 gf_X7_78 dX7_shapeOfBlock_22 rfl rfl ?_
    refine j_iadd 26 dX7_shapeOfBlock_25 ?_
    refine j_goto 33 dX7_shapeOfBlock_26 ?_
    refine j_top ((fr + min wd (n - fr) : Nat) : Int) (congrArg iI (by omega)) ?_
    refine j_istore_3 34 (lv' := [(0, _), (1, _), (2, _), (3, _)]) dX7_shapeOfBlock_33 rfl ⟨rfl, rfl⟩ ?_
    refine j_aload_0 35 dX7_shapeOfBlock_34 rfl ?_
    refine j_iload_2 36 dX7_shapeOfBlock_35 rfl ?_
    refine j_iload_3 37 dX7_shapeOfBlock_36 rfl ?_
    refine j_callV 40 Y_X7_shapeOf [0, 1, 2] [_, _] (c_X7_shapeOf E _ _ _ _ _ _ _ _ _ _ _ _ _ _ _ _ _ _ _ _ _ _ _ _ _ fr (min wd (n - fr)) (by omega)) m_X7_shapeOf wml_X7_87 dX7_shapeOfBlock_37 0 rfl rfl rfl rfl rfl rfl rfl rfl rfl (fun r N h => by obtain ⟨_, _, rfl, rfl⟩ := h; rfl) (fun r N h => ?_)
    obtain ⟨pd2, pi2, rfl, rfl⟩ := h
    exact j_iret dX7_shapeOfBlock_40 rfl rfl ⟨pd2, pi2, by rw [← hfr]; rfl, rfl⟩

set_option maxRecDepth 100000 in
set_option maxHeartbeats 4000000 in
theorem c_X7_isMade (E : jD) (fnd : Int) (ask : Int) (wd : Int) (n : Int) (mm : Int) (um : Int) (nd : Int) (m0 : Nat) (m1 : Nat) (m2 : Nat) (m3 : Nat) (m4 : Nat) (m5 : Nat) (m6 : Nat) (m7 : Nat) (m8 : Nat) (m9 : Nat) (m10 : Nat) (m11 : Nat) (m12 : Nat) (thr : Int) (pd : Int) (pal : Int) (md0 : Nat → Int32) (s : Int) (hs : jr s) : MC E Y_X7_isMade [.ref m0, .int (iI s)] [(m0, jO 7 [.int (iI thr), .int (iI ask), .int (iI fnd), .ref m1, .ref m2, .ref m3, .int (iI n), .int (iI wd), .ref m4, .ref m5, .int (iI mm), .ref m6, .ref m7, .int (iI um), .ref m8, .ref m9, .ref m10, .ref m11, .int (iI pd), .int (iI nd), .ref m12, .int (iI pal)]), (m5, jA E 256 md0)] (fun rr N0 => rr = some (.int (iI (bI (0 ≤ s ∧ s ≤ 8191 ∧ mB md0 s.toNat = true)))) ∧ N0 = [(m0, jO 7 [.int (iI thr), .int (iI ask), .int (iI fnd), .ref m1, .ref m2, .ref m3, .int (iI n), .int (iI wd), .ref m4, .ref m5, .int (iI mm), .ref m6, .ref m7, .int (iI um), .ref m8, .ref m9, .ref m10, .ref m11, .int (iI pd), .int (iI nd), .ref m12, .int (iI pal)]), (m5, jA E 256 md0)]) := by
  refine MC.of (by decide) rfl rfl ?_
  refine j_iload_1 1 dX7_isMade_0 rfl ?_
  refine j_iconst 2 dX7_isMade_1 ?_
  refine j_sipush 5 dX7_isMade_2 (by decide +kernel) ?_
  refine j_callSi 8 Y_X7_in [] [_, _, _] (c_X7_in E _ _ _ (by first | with_reducible assumption | with_reducible exact iI_rng _ | exact ⟨by omega, by omega⟩) (by first | with_reducible assumption | with_reducible exact iI_rng _ | exact ⟨by omega, by omega⟩) (by first | with_reducible assumption | with_reducible exact iI_rng _ | exact ⟨by omega, by omega⟩)) m_X7_in wml_X7_56 dX7_isMade_5 rfl rfl rfl rfl rfl rfl rfl ?_
  refine j_bif_eq 35 11 dX7_isMade_8 (fun q8 => ?_) (fun q8 => ?_)
  · refine j_iconst 36 dX7_isMade_35 ?_
    exact j_zret (by decide +kernel) dX7_isMade_36 rfl rfl ⟨congrArg (fun z => some (Value.int (iI z))) ((bI_f (fun z => q8 ⟨z.1, z.2.1⟩)).symm), rfl⟩
  · obtain ⟨s, rfl⟩ : ∃ k : Nat, s = (k : Int) := ⟨s.toNat, by omega⟩
    refine j_aload_0 12 dX7_isMade_11 rfl ?_
    refine j_get 15 0 gf_X7_22 dX7_isMade_12 rfl rfl ?_
    refine j_iload_1 16 dX7_isMade_15 rfl ?_
    refine j_bipush 18 dX7_isMade_16 (by decide +kernel) ?_
    refine j_idiv 19 dX7_isMade_18 (by omega) (by omega) (by first | with_reducible exact iI_rng _ | with_reducible exact bI_r _ | exact ⟨by omega, by omega⟩) (by first | with_reducible exact iI_rng _ | with_reducible exact bI_r _ | exact ⟨by omega, by omega⟩) ?_
    refine j_top ((s / 32 : Nat) : Int) rfl ?_
    refine j_ialdx 20 1 (s / 32) dX7_isMade_19 rfl rfl rfl (by omega) ?_
    refine j_iload_1 21 dX7_isMade_20 rfl ?_
    refine j_bipush 23 dX7_isMade_21 (by decide +kernel) ?_
    refine j_irem 24 dX7_isMade_23 (by omega) (by omega) (by first | with_reducible exact iI_rng _ | with_reducible exact bI_r _ | exact ⟨by omega, by omega⟩) (by first | with_reducible exact iI_rng _ | with_reducible exact bI_r _ | exact ⟨by omega, by omega⟩) ?_
    refine j_top ((s % 32 : Nat) : Int) rfl ?_
    refine j_ishr 25 dX7_isMade_24 ?_
    refine j_iconst 26 dX7_isMade_25 ?_
    refine j_iand 27 dX7_isMade_26 ?_
    refine j_top _ (mB_get _ _ (Nat.mod_lt _ (by decide))) ?_
    have hbr := bI_r (bt (md0 (s / 32)) (s % 32) = true)
    refine j_iconst 28 dX7_isMade_27 ?_
    refine j_icmp_ne 35 31 dX7_isMade_28 hbr (by first | with_reducible exact iI_rng _ | with_reducible exact bI_r _ | exact ⟨by omega, by omega⟩) (fun q28 => ?_) (fun q28 => ?_)
    · refine j_iconst 36 dX7_isMade_35 ?_
      refine j_zret (by first | exact bI_n _ | decide +kernel) dX7_isMade_36 rfl rfl ?_
      first
        | exact ⟨congrArg (fun z => some (Value.int (iI z))) ((bI_t ⟨by omega, by omega, by show bt (md0 (s / 32)) (s % 32) = true; refine Decidable.byContradiction (fun z => ?_); rw [bI_f z] at q28; exact absurd q28 (by decide)⟩).symm), rfl⟩
        | exact ⟨congrArg (fun z => some (Value.int (iI z))) ((bI_f (fun z => q28 (bI_t (show bt (md0 (s / 32)) (s % 32) = true from z.2.2)))).symm), rfl⟩
    · refine j_iconst 32 dX7_isMade_31 ?_
      refine j_goto 36 dX7_isMade_32 ?_
      refine j_zret (by first | exact bI_n _ | decide +kernel) dX7_isMade_36 rfl rfl ?_
      first
        | exact ⟨congrArg (fun z => some (Value.int (iI z))) ((bI_t ⟨by omega, by omega, by show bt (md0 (s / 32)) (s % 32) = true; refine Decidable.byContradiction (fun z => ?_); rw [bI_f z] at q28; exact absurd q28 (by decide)⟩).symm), rfl⟩
        | exact ⟨congrArg (fun z => some (Value.int (iI z))) ((bI_f (fun z => q28 (bI_t (show bt (md0 (s / 32)) (s % 32) = true from z.2.2)))).symm), rfl⟩

set_option maxRecDepth 100000 in
set_option maxHeartbeats 4000000 in
theorem c_X7_makes_n (E : jD) (fnd : Int) (ask : Int) (wd : Int) (n : Int) (mm : Int) (um : Int) (nd : Int) (m0 : Nat) (m1 : Nat) (m2 : Nat) (m3 : Nat) (m4 : Nat) (m5 : Nat) (m6 : Nat) (m7 : Nat) (m8 : Nat) (m9 : Nat) (m10 : Nat) (m11 : Nat) (m12 : Nat) (thr : Int) (pd : Int) (pal : Int) (md0 : Nat → Int32) (s : Nat) (hs : s < 4096) (hm : mB md0 s = false) : MC E Y_X7_makes [.ref m0, .int (iI (s : Int))] [(m0, jO 7 [.int (iI thr), .int (iI ask), .int (iI fnd), .ref m1, .ref m2, .ref m3, .int (iI n), .int (iI wd), .ref m4, .ref m5, .int (iI mm), .ref m6, .ref m7, .int (iI um), .ref m8, .ref m9, .ref m10, .ref m11, .int (iI pd), .int (iI nd), .ref m12, .int (iI pal)]), (m5, jA E 256 md0)] (fun rr N0 => rr = none ∧ N0 = [(m0, jO 7 [.int (iI thr), .int (iI ask), .int (iI fnd), .ref m1, .ref m2, .ref m3, .int (iI n), .int (iI wd), .ref m4, .ref m5, .int (iI (mm + 1)), .ref m6, .ref m7, .int (iI um), .ref m8, .ref m9, .ref m10, .ref m11, .int (iI pd), .int (iI nd), .ref m12, .int (iI pal)]), (m5, jA E 256 (incM md0 s))]) := by
  refine MC.of (by decide) rfl rfl ?_
  refine j_aload_0 1 dX7_makes_0 rfl ?_
  refine j_iload_1 2 dX7_makes_1 rfl ?_
  refine j_callVi 5 Y_X7_isMade [0, 1] [_] (c_X7_isMade E _ _ _ _ _ _ _ _ _ _ _ _ _ _ _ _ _ _ _ _ _ _ _ _ _ (by exact ⟨by omega, by omega⟩)) m_X7_isMade wml_X7_90 dX7_makes_2 0 rfl rfl rfl rfl rfl rfl rfl rfl rfl rfl ?_
  refine j_bif_ne 36 8 dX7_makes_5 (fun q5 => ?_) (fun q5 => ?_)
  · exact absurd (show mB md0 s = true from q5.2.2) (by rw [hm]; decide)
  · refine j_aload_0 9 dX7_makes_8 rfl ?_
    refine j_get 12 0 gf_X7_22 dX7_makes_9 rfl rfl ?_
    refine j_iload_1 13 dX7_makes_12 rfl ?_
    refine j_bipush 15 dX7_makes_13 (by decide +kernel) ?_
    refine j_idiv 16 dX7_makes_15 (by omega) (by omega) (by first | with_reducible exact iI_rng _ | with_reducible exact bI_r _ | exact ⟨by omega, by omega⟩) (by first | with_reducible exact iI_rng _ | with_reducible exact bI_r _ | exact ⟨by omega, by omega⟩) ?_
    refine j_top ((s / 32 : Nat) : Int) rfl ?_
    refine j_dup2 17 dX7_makes_16 rfl rfl ?_
    refine j_ialdx 18 1 (s / 32) dX7_makes_17 rfl rfl rfl (by omega) ?_
    refine j_iconst 19 dX7_makes_18 ?_
    refine j_iload_1 20 dX7_makes_19 rfl ?_
    refine j_bipush 22 dX7_makes_20 (by decide +kernel) ?_
    refine j_irem 23 dX7_makes_22 (by omega) (by omega) (by first | with_reducible exact iI_rng _ | with_reducible exact bI_r _ | exact ⟨by omega, by omega⟩) (by first | with_reducible exact iI_rng _ | with_reducible exact bI_r _ | exact ⟨by omega, by omega⟩) ?_
    refine j_top ((s % 32 : Nat) : Int) rfl ?_
    refine j_ishl 24 dX7_makes_23 ?_
    refine j_ior 25 dX7_makes_24 ?_
    refine j_iast 26 1 (s / 32) dX7_makes_25 rfl rfl rfl (by omega) ?_
    refine j_aload_0 27 dX7_makes_26 rfl ?_
    refine j_dup 28 dX7_makes_27 rfl ?_
    refine j_get 31 0 gf_X7_93 dX7_makes_28 rfl rfl ?_
    refine j_iconst 32 dX7_makes_31 ?_
    refine j_iadd 33 dX7_makes_32 ?_
    refine j_put 36 0 pf_X7_93 dX7_makes_33 rfl ⟨rfl, rfl, rfl⟩ ?_
    exact j_vret dX7_makes_36 rfl rfl ⟨rfl, rfl⟩

set_option maxRecDepth 100000 in
set_option maxHeartbeats 4000000 in
theorem c_X7_makes_y (E : jD) (fnd : Int) (ask : Int) (wd : Int) (n : Int) (mm : Int) (um : Int) (nd : Int) (m0 : Nat) (m1 : Nat) (m2 : Nat) (m3 : Nat) (m4 : Nat) (m5 : Nat) (m6 : Nat) (m7 : Nat) (m8 : Nat) (m9 : Nat) (m10 : Nat) (m11 : Nat) (m12 : Nat) (thr : Int) (pd : Int) (pal : Int) (md0 : Nat → Int32) (s : Nat) (hs : s < 4096) (hm : mB md0 s = true) : MC E Y_X7_makes [.ref m0, .int (iI (s : Int))] [(m0, jO 7 [.int (iI thr), .int (iI ask), .int (iI fnd), .ref m1, .ref m2, .ref m3, .int (iI n), .int (iI wd), .ref m4, .ref m5, .int (iI mm), .ref m6, .ref m7, .int (iI um), .ref m8, .ref m9, .ref m10, .ref m11, .int (iI pd), .int (iI nd), .ref m12, .int (iI pal)]), (m5, jA E 256 md0)] (fun rr N0 => rr = none ∧ N0 = [(m0, jO 7 [.int (iI thr), .int (iI ask), .int (iI fnd), .ref m1, .ref m2, .ref m3, .int (iI n), .int (iI wd), .ref m4, .ref m5, .int (iI mm), .ref m6, .ref m7, .int (iI um), .ref m8, .ref m9, .ref m10, .ref m11, .int (iI pd), .int (iI nd), .ref m12, .int (iI pal)]), (m5, jA E 256 md0)]) := by
  refine MC.of (by decide) rfl rfl ?_
  refine j_aload_0 1 dX7_makes_0 rfl ?_
  refine j_iload_1 2 dX7_makes_1 rfl ?_
  refine j_callVi 5 Y_X7_isMade [0, 1] [_] (c_X7_isMade E _ _ _ _ _ _ _ _ _ _ _ _ _ _ _ _ _ _ _ _ _ _ _ _ _ (by exact ⟨by omega, by omega⟩)) m_X7_isMade wml_X7_90 dX7_makes_2 0 rfl rfl rfl rfl rfl rfl rfl rfl rfl rfl ?_
  refine j_bif_ne 36 8 dX7_makes_5 (fun q5 => ?_) (fun q5 => ?_)
  · exact j_vret dX7_makes_36 rfl rfl ⟨rfl, rfl⟩
  · exact absurd ⟨by omega, by omega, hm⟩ q5

theorem c_X7_makes (E : jD) (fnd : Int) (ask : Int) (wd : Int) (n : Int) (mm : Int) (um : Int) (nd : Int) (m0 : Nat) (m1 : Nat) (m2 : Nat) (m3 : Nat) (m4 : Nat) (m5 : Nat) (m6 : Nat) (m7 : Nat) (m8 : Nat) (m9 : Nat) (m10 : Nat) (m11 : Nat) (m12 : Nat) (thr : Int) (pd : Int) (pal : Int) (md0 : Nat → Int32) (s : Nat) (hs : s < 4096) : MC E Y_X7_makes [.ref m0, .int (iI (s : Int))] [(m0, jO 7 [.int (iI thr), .int (iI ask), .int (iI fnd), .ref m1, .ref m2, .ref m3, .int (iI n), .int (iI wd), .ref m4, .ref m5, .int (iI mm), .ref m6, .ref m7, .int (iI um), .ref m8, .ref m9, .ref m10, .ref m11, .int (iI pd), .int (iI nd), .ref m12, .int (iI pal)]), (m5, jA E 256 md0)] (fun rr N0 => rr = none ∧ N0 = [(m0, jO 7 [.int (iI thr), .int (iI ask), .int (iI fnd), .ref m1, .ref m2, .ref m3, .int (iI n), .int (iI wd), .ref m4, .ref m5, .int (iI (imM md0 mm s)), .ref m6, .ref m7, .int (iI um), .ref m8, .ref m9, .ref m10, .ref m11, .int (iI pd), .int (iI nd), .ref m12, .int (iI pal)]), (m5, jA E 256 (imW md0 s))]) := by
  unfold imM imW
  cases hw : mB md0 s with
  | true =>
    rw [if_pos rfl, if_pos rfl]
    exact c_X7_makes_y E fnd ask wd n mm um nd m0 m1 m2 m3 m4 m5 m6 m7 m8 m9 m10 m11 m12 thr pd pal md0 s hs hw
  | false =>
    rw [if_neg (by decide), if_neg (by decide)]
    exact c_X7_makes_n E fnd ask wd n mm um nd m0 m1 m2 m3 m4 m5 m6 m7 m8 m9 m10 m11 m12 thr pd pal md0 s hs hw

set_option maxRecDepth 100000 in
set_option maxHeartbeats 4000000 in
theorem lp7_makesAll (E : jD) (fnd : Int) (ask : Int) (mm : Int) (um : Int) (nd : Int) (m0 : Nat) (m1 : Nat) (m2 : Nat) (m3 : Nat) (m4 : Nat) (m5 : Nat) (m6 : Nat) (m7 : Nat) (m8 : Nat) (m9 : Nat) (m10 : Nat) (m11 : Nat) (m12 : Nat) (thr : Int) (pal : Int) (it : Nat → Int32) (md0 : Nat → Int32) (n wd : Nat) (hw : 1 ≤ wd ∧ wd ≤ 6) (hn : n ≤ 48) : ∀ (d : Nat) (b : Nat) (pd : Int) (pi : Nat → Int32), nB n wd - b < d → (b ≤ nB n wd) → J E Y_X7_makesAll (jZm E Y_X7_makesAll (fun rr N0 => ∃ pd2 pi2, rr = none ∧ N0 = [(m0, jO 7 [.int (iI thr), .int (iI ask), .int (iI fnd), .ref m1, .ref m2, .ref m3, .int (iI (n : Int)), .int (iI (wd : Int)), .ref m4, .ref m5, .int (iI (imB (tI it) n wd (fa (iI 0) 256 md0) (nB n wd)).2), .ref m6, .ref m7, .int (iI 0), .ref m8, .ref m9, .ref m10, .ref m11, .int (iI pd2), .int (iI nd), .ref m12, .int (iI pal)]), (m4, jA E 48 it), (m5, jA E 256 (imB (tI it) n wd (fa (iI 0) 256 md0) (nB n wd)).1), (m11, jA E 48 pi2)])) 0 0 34 [(0, .ref m0), (1, .int (iI (b : Int)))] [] [(m0, jO 7 [.int (iI thr), .int (iI ask), .int (iI fnd), .ref m1, .ref m2, .ref m3, .int (iI (n : Int)), .int (iI (wd : Int)), .ref m4, .ref m5, .int (iI (imB (tI it) n wd (fa (iI 0) 256 md0) b).2), .ref m6, .ref m7, .int (iI 0), .ref m8, .ref m9, .ref m10, .ref m11, .int (iI pd), .int (iI nd), .ref m12, .int (iI pal)]), (m4, jA E 48 it), (m5, jA E 256 (imB (tI it) n wd (fa (iI 0) 256 md0) b).1), (m11, jA E 48 pi)] := by
  intro d
  induction d with
  | zero => intros; omega
  | succ d ih =>
    intro b pd pi hd hb
    have hle := nB_le (n := n) hw.1
    refine j_iload_1 35 dX7_makesAll_34 rfl ?_
    refine j_aload_0 36 dX7_makesAll_35 rfl ?_
    refine j_callVi 39 Y_X7_blocks [0] [] (c_X7_blocks E _ _ _ _ _ _ _ _ _ _ _ _ _ _ _ _ _ _ _ _ _ n wd (by omega)) m_X7_blocks wml_X7_99 dX7_makesAll_36 0 rfl rfl rfl rfl rfl rfl rfl rfl rfl rfl ?_
    refine j_icmp_ge 57 42 dX7_makesAll_39 (by first | with_reducible exact iI_rng _ | with_reducible exact bI_r _ | exact ⟨by omega, by omega⟩) (by first | with_reducible exact iI_rng _ | with_reducible exact bI_r _ | exact ⟨by omega, by omega⟩) (fun q39 => ?_) (fun q39 => ?_)
    · have e0 : b = nB n wd := by omega
      subst e0
      exact j_vret dX7_makesAll_57 rfl rfl ⟨pd, pi, rfl, rfl⟩
    · have hbi := nB_in hw.1 (show b < nB n wd by omega)
      have hsl := shB_lt (tI it) n b hw.2
      refine j_aload_0 43 dX7_makesAll_42 rfl ?_
      refine j_aload_0 44 dX7_makesAll_43 rfl ?_
      refine j_iload_1 45 dX7_makesAll_44 rfl ?_
      refine j_callV 48 Y_X7_shapeOfBlock [0, 1, 3] [_] (c_X7_shapeOfBlock E _ _ _ _ _ _ _ _ _ _ _ _ _ _ _ _ _ _ _ _ _ _ _ n wd b hw hn (by omega) (by omega)) m_X7_shapeOfBlock wml_X7_103 dX7_makesAll_45 0 rfl rfl rfl rfl rfl rfl rfl rfl rfl (fun r N h => by obtain ⟨_, _, rfl, rfl⟩ := h; rfl) (fun r N h => ?_)
      obtain ⟨pd2, pi2, rfl, rfl⟩ := h
      refine j_eqM (M' := [(m0, jO 7 [.int (iI thr), .int (iI ask), .int (iI fnd), .ref m1, .ref m2, .ref m3, .int (iI (n : Int)), .int (iI (wd : Int)), .ref m4, .ref m5, .int (iI (imB (tI it) n wd (fa (iI 0) 256 md0) b).2), .ref m6, .ref m7, .int (iI 0), .ref m8, .ref m9, .ref m10, .ref m11, .int (iI pd2), .int (iI nd), .ref m12, .int (iI pal)]), (m4, jA E 48 it), (m5, jA E 256 (imB (tI it) n wd (fa (iI 0) 256 md0) b).1), (m11, jA E 48 pi2)]) rfl ?_
      refine j_callV 51 Y_X7_makes [0, 2] [_] (c_X7_makes E _ _ _ _ _ _ _ _ _ _ _ _ _ _ _ _ _ _ _ _ _ _ _ _ _ hsl) m_X7_makes wml_X7_106 dX7_makesAll_48 0 rfl rfl rfl rfl rfl rfl rfl rfl rfl (fun r N h => by obtain ⟨rfl, rfl⟩ := h; rfl) (fun r N h => ?_)
      obtain ⟨rfl, rfl⟩ := h
      refine j_eqM (M' := [(m0, jO 7 [.int (iI thr), .int (iI ask), .int (iI fnd), .ref m1, .ref m2, .ref m3, .int (iI (n : Int)), .int (iI (wd : Int)), .ref m4, .ref m5, .int (iI (imB (tI it) n wd (fa (iI 0) 256 md0) (b + 1)).2), .ref m6, .ref m7, .int (iI 0), .ref m8, .ref m9, .ref m10, .ref m11, .int (iI pd2), .int (iI nd), .ref m12, .int (iI pal)]), (m4, jA E 48 it), (m5, jA E 256 (imB (tI it) n wd (fa (iI 0) 256 md0) (b + 1)).1), (m11, jA E 48 pi2)]) rfl ?_
      refine j_iinc 54 (lv' := [(0, _), (1, _)]) dX7_makesAll_51 rfl rfl ⟨rfl, rfl⟩ ?_
      refine j_goto 34 dX7_makesAll_54 ?_
      exact ih (b + 1) pd2 pi2 (by omega) (by omega)

set_option maxRecDepth 100000 in
set_option maxHeartbeats 4000000 in
theorem lp7_makesAll0 (E : jD) (fnd : Int) (ask : Int) (mm : Int) (um : Int) (nd : Int) (m0 : Nat) (m1 : Nat) (m2 : Nat) (m3 : Nat) (m4 : Nat) (m5 : Nat) (m6 : Nat) (m7 : Nat) (m8 : Nat) (m9 : Nat) (m10 : Nat) (m11 : Nat) (m12 : Nat) (thr : Int) (pd : Int) (pal : Int) (it : Nat → Int32) (md0 : Nat → Int32) (pi : Nat → Int32) (n wd : Nat) (hw : 1 ≤ wd ∧ wd ≤ 6) (hn : n ≤ 48) : ∀ (d : Nat) (k : Nat), 256 - k < d → (k ≤ 256) → J E Y_X7_makesAll (jZm E Y_X7_makesAll (fun rr N0 => ∃ pd2 pi2, rr = none ∧ N0 = [(m0, jO 7 [.int (iI thr), .int (iI ask), .int (iI fnd), .ref m1, .ref m2, .ref m3, .int (iI (n : Int)), .int (iI (wd : Int)), .ref m4, .ref m5, .int (iI (imB (tI it) n wd (fa (iI 0) 256 md0) (nB n wd)).2), .ref m6, .ref m7, .int (iI 0), .ref m8, .ref m9, .ref m10, .ref m11, .int (iI pd2), .int (iI nd), .ref m12, .int (iI pal)]), (m4, jA E 48 it), (m5, jA E 256 (imB (tI it) n wd (fa (iI 0) 256 md0) (nB n wd)).1), (m11, jA E 48 pi2)])) 0 0 2 [(0, .ref m0), (1, .int (iI (k : Int)))] [] [(m0, jO 7 [.int (iI thr), .int (iI ask), .int (iI fnd), .ref m1, .ref m2, .ref m3, .int (iI (n : Int)), .int (iI (wd : Int)), .ref m4, .ref m5, .int (iI mm), .ref m6, .ref m7, .int (iI um), .ref m8, .ref m9, .ref m10, .ref m11, .int (iI pd), .int (iI nd), .ref m12, .int (iI pal)]), (m4, jA E 48 it), (m5, jA E 256 (fa (iI 0) k md0)), (m11, jA E 48 pi)] := by
  intro d
  induction d with
  | zero => intros; omega
  | succ d ih =>
    intro k hd hk
    refine j_iload_1 3 dX7_makesAll_2 rfl ?_
    refine j_sipush 6 dX7_makesAll_3 (by decide +kernel) ?_
    refine j_icmp_ge 22 9 dX7_makesAll_6 (by first | with_reducible exact iI_rng _ | with_reducible exact bI_r _ | exact ⟨by omega, by omega⟩) (by first | with_reducible exact iI_rng _ | with_reducible exact bI_r _ | exact ⟨by omega, by omega⟩) (fun q6 => ?_) (fun q6 => ?_)
    · have e0 : k = 256 := by omega
      subst e0
      refine j_aload_0 23 dX7_makesAll_22 rfl ?_
      refine j_iconst 24 dX7_makesAll_23 ?_
      refine j_put 27 0 pf_X7_93 dX7_makesAll_24 rfl ⟨rfl, rfl, rfl⟩ ?_
      refine j_aload_0 28 dX7_makesAll_27 rfl ?_
      refine j_iconst 29 dX7_makesAll_28 ?_
      refine j_put 32 0 pf_X7_96 dX7_makesAll_29 rfl ⟨rfl, rfl, rfl⟩ ?_
      refine j_iconst 33 dX7_makesAll_32 ?_
      refine j_istore_1 34 (lv' := [(0, _), (1, _)]) dX7_makesAll_33 rfl ⟨rfl, rfl⟩ ?_
      refine j_eqM (M' := [(m0, jO 7 [.int (iI thr), .int (iI ask), .int (iI fnd), .ref m1, .ref m2, .ref m3, .int (iI (n : Int)), .int (iI (wd : Int)), .ref m4, .ref m5, .int (iI (imB (tI it) n wd (fa (iI 0) 256 md0) 0).2), .ref m6, .ref m7, .int (iI 0), .ref m8, .ref m9, .ref m10, .ref m11, .int (iI pd), .int (iI nd), .ref m12, .int (iI pal)]), (m4, jA E 48 it), (m5, jA E 256 (imB (tI it) n wd (fa (iI 0) 256 md0) 0).1), (m11, jA E 48 pi)]) rfl ?_
      exact lp7_makesAll E fnd ask mm um nd m0 m1 m2 m3 m4 m5 m6 m7 m8 m9 m10 m11 m12 thr pal it md0 n wd hw hn (nB n wd + 1) 0 pd pi (by omega) (by omega)
    · refine j_aload_0 10 dX7_makesAll_9 rfl ?_
      refine j_get 13 0 gf_X7_22 dX7_makesAll_10 rfl rfl ?_
      refine j_iload_1 14 dX7_makesAll_13 rfl ?_
      refine j_iconst 15 dX7_makesAll_14 ?_
      refine j_iast 16 2 _ dX7_makesAll_15 rfl rfl rfl (by omega) ?_
      refine j_eqM (M' := [(m0, jO 7 [.int (iI thr), .int (iI ask), .int (iI fnd), .ref m1, .ref m2, .ref m3, .int (iI (n : Int)), .int (iI (wd : Int)), .ref m4, .ref m5, .int (iI mm), .ref m6, .ref m7, .int (iI um), .ref m8, .ref m9, .ref m10, .ref m11, .int (iI pd), .int (iI nd), .ref m12, .int (iI pal)]), (m4, jA E 48 it), (m5, jA E 256 (fa (iI 0) (k + 1) md0)), (m11, jA E 48 pi)]) (by rw [← fa_s]; rfl) ?_
      refine j_iinc 19 (lv' := [(0, _), (1, _)]) dX7_makesAll_16 rfl rfl ⟨rfl, rfl⟩ ?_
      refine j_goto 2 dX7_makesAll_19 ?_
      exact ih (k + 1) (by omega) (by omega)

set_option maxRecDepth 100000 in
set_option maxHeartbeats 4000000 in
theorem c_X7_makesAll (E : jD) (fnd : Int) (ask : Int) (mm : Int) (um : Int) (nd : Int) (m0 : Nat) (m1 : Nat) (m2 : Nat) (m3 : Nat) (m4 : Nat) (m5 : Nat) (m6 : Nat) (m7 : Nat) (m8 : Nat) (m9 : Nat) (m10 : Nat) (m11 : Nat) (m12 : Nat) (thr : Int) (pd : Int) (pal : Int) (it : Nat → Int32) (md0 : Nat → Int32) (pi : Nat → Int32) (n wd : Nat) (hw : 1 ≤ wd ∧ wd ≤ 6) (hn : n ≤ 48) : MC E Y_X7_makesAll [.ref m0] [(m0, jO 7 [.int (iI thr), .int (iI ask), .int (iI fnd), .ref m1, .ref m2, .ref m3, .int (iI (n : Int)), .int (iI (wd : Int)), .ref m4, .ref m5, .int (iI mm), .ref m6, .ref m7, .int (iI um), .ref m8, .ref m9, .ref m10, .ref m11, .int (iI pd), .int (iI nd), .ref m12, .int (iI pal)]), (m4, jA E 48 it), (m5, jA E 256 md0), (m11, jA E 48 pi)] (fun rr N0 => ∃ pd2 pi2, rr = none ∧ N0 = [(m0, jO 7 [.int (iI thr), .int (iI ask), .int (iI fnd), .ref m1, .ref m2, .ref m3, .int (iI (n : Int)), .int (iI (wd : Int)), .ref m4, .ref m5, .int (iI (imB (tI it) n wd (fa (iI 0) 256 md0) (nB n wd)).2), .ref m6, .ref m7, .int (iI 0), .ref m8, .ref m9, .ref m10, .ref m11, .int (iI pd2), .int (iI nd), .ref m12, .int (iI pal)]), (m4, jA E 48 it), (m5, jA E 256 (imB (tI it) n wd (fa (iI 0) 256 md0) (nB n wd)).1), (m11, jA E 48 pi2)]) := by
  refine MC.of (by decide) rfl rfl ?_
  refine j_iconst 1 dX7_makesAll_0 ?_
  refine j_istore_1 2 (lv' := [(0, _), (1, _)]) dX7_makesAll_1 rfl ⟨rfl, rfl⟩ ?_
  refine j_eqM (M' := [(m0, jO 7 [.int (iI thr), .int (iI ask), .int (iI fnd), .ref m1, .ref m2, .ref m3, .int (iI (n : Int)), .int (iI (wd : Int)), .ref m4, .ref m5, .int (iI mm), .ref m6, .ref m7, .int (iI um), .ref m8, .ref m9, .ref m10, .ref m11, .int (iI pd), .int (iI nd), .ref m12, .int (iI pal)]), (m4, jA E 48 it), (m5, jA E 256 (fa (iI 0) 0 md0)), (m11, jA E 48 pi)]) (by rw [fa_0]) ?_
  exact lp7_makesAll0 E fnd ask mm um nd m0 m1 m2 m3 m4 m5 m6 m7 m8 m9 m10 m11 m12 thr pd pal it md0 pi n wd hw hn 257 0 (by omega) (by omega)

set_option maxRecDepth 100000 in
set_option maxHeartbeats 4000000 in
theorem lp7_takenOff_in (E : jD) (fnd : Int) (ask : Int) (wd : Int) (n : Int) (mm : Int) (um : Int) (nd : Int) (m0 : Nat) (m1 : Nat) (m2 : Nat) (m3 : Nat) (m4 : Nat) (m5 : Nat) (m6 : Nat) (m7 : Nat) (m8 : Nat) (m9 : Nat) (m10 : Nat) (m11 : Nat) (m12 : Nat) (thr : Int) (pal : Int) (it : Nat → Int32) (pi : Nat → Int32) (Z : jZ) (fr k c : Nat) (hc : fr + c < 48) : ∀ (P : List Int) (m z : Nat), pileIs pi P → P.length ≤ 48 →
    J E Y_X7_takenOff Z 0 0 64 [(0, .ref m0), (1, .int (iI (fr : Int))), (2, .int (iI (k : Int))), (3, .int (iI (((z + tkN ((tI it) (fr + c)) P : Nat) : Int) : Int))), (4, .int (iI ((fr + c : Nat) : Int)))] [] [(m0, jO 7 [.int (iI thr), .int (iI ask), .int (iI fnd), .ref m1, .ref m2, .ref m3, .int (iI n), .int (iI wd), .ref m4, .ref m5, .int (iI mm), .ref m6, .ref m7, .int (iI um), .ref m8, .ref m9, .ref m10, .ref m11, .int (iI ((popF ((tI it) (fr + c)) P m).1.length : Nat)), .int (iI nd), .ref m12, .int (iI pal)]), (m4, jA E 48 it), (m11, jA E 48 pi)] → J E Y_X7_takenOff Z 0 0 20 [(0, .ref m0), (1, .int (iI (fr : Int))), (2, .int (iI (k : Int))), (3, .int (iI (z : Int))), (4, .int (iI ((fr + c : Nat) : Int)))] [] [(m0, jO 7 [.int (iI thr), .int (iI ask), .int (iI fnd), .ref m1, .ref m2, .ref m3, .int (iI n), .int (iI wd), .ref m4, .ref m5, .int (iI mm), .ref m6, .ref m7, .int (iI um), .ref m8, .ref m9, .ref m10, .ref m11, .int (iI ((P.length : Nat) : Int)), .int (iI nd), .ref m12, .int (iI pal)]), (m4, jA E 48 it), (m11, jA E 48 pi)] := by
  intro P
  induction P with
  | nil =>
    intro m z hp hl kk
    refine j_aload_0 21 dX7_takenOff_20 rfl ?_
    refine j_get 24 0 gf_X7_84 dX7_takenOff_21 rfl rfl ?_
    refine j_if_le 64 27 dX7_takenOff_24 (by first | with_reducible exact iI_rng _ | with_reducible exact bI_r _ | exact ⟨by omega, by omega⟩) (fun q24 => ?_) (fun q24 => ?_)
    · exact kk
    · exact absurd (show ((List.length ([] : List Int) : Nat) : Int) ≤ 0 from by simp) q24
  | cons t P ih =>
    intro m z hp hl kk
    rw [List.length_cons] at hl
    refine j_aload_0 21 dX7_takenOff_20 rfl ?_
    refine j_get 24 0 gf_X7_84 dX7_takenOff_21 rfl rfl ?_
    refine j_if_le 64 27 dX7_takenOff_24 (by rw [List.length_cons]; exact ⟨by omega, by omega⟩) (fun q24 => ?_) (fun q24 => ?_)
    · rw [List.length_cons] at q24; omega
    · refine j_aload_0 28 dX7_takenOff_27 rfl ?_
      refine j_get 31 0 gf_X7_40 dX7_takenOff_28 rfl rfl ?_
      refine j_aload_0 32 dX7_takenOff_31 rfl ?_
      refine j_get 35 0 gf_X7_84 dX7_takenOff_32 rfl rfl ?_
      refine j_iconst 36 dX7_takenOff_35 ?_
      refine j_isub 37 dX7_takenOff_36 ?_
      refine j_ialdw 38 2 (P.length) (t) dX7_takenOff_37 rfl rfl (by rw [List.length_cons]; omega) (by omega) (by rw [← hp.1, iI_x]) ?_
      refine j_aload_0 39 dX7_takenOff_38 rfl ?_
      refine j_get 42 0 gf_X7_19 dX7_takenOff_39 rfl rfl ?_
      refine j_iload 44 dX7_takenOff_42 rfl ?_
      refine j_iald 45 1 _ dX7_takenOff_44 rfl rfl rfl (by omega) ?_
      refine j_icmp_le 64 48 dX7_takenOff_45 (by rw [← hp.1]; exact iI_rng _) (by first | with_reducible exact iI_rng _ | with_reducible exact bI_r _ | exact ⟨by omega, by omega⟩) (fun q45 => ?_) (fun q45 => ?_)
      · have e : popF ((tI it) (fr + c)) (t :: P) m = (t :: P, m) := if_neg (by show ¬ (it (fr + c)).toInt < t; omega)
        have e2 : tkN ((tI it) (fr + c)) (t :: P) = 0 := if_neg (by show ¬ (it (fr + c)).toInt < t; omega)
        rw [e, e2] at kk
        exact kk
      · have e : popF ((tI it) (fr + c)) (t :: P) m = popF ((tI it) (fr + c)) P (2 * m) := if_pos (by show (it (fr + c)).toInt < t; omega)
        have e2 : tkN ((tI it) (fr + c)) (t :: P) = tkN ((tI it) (fr + c)) P + 1 := if_pos (by show (it (fr + c)).toInt < t; omega)
        rw [e, e2] at kk
        refine j_aload_0 49 dX7_takenOff_48 rfl ?_
        refine j_dup 50 dX7_takenOff_49 rfl ?_
        refine j_get 53 0 gf_X7_84 dX7_takenOff_50 rfl rfl ?_
        refine j_iconst 54 dX7_takenOff_53 ?_
        refine j_isub 55 dX7_takenOff_54 ?_
        refine j_put 58 0 pf_X7_84 dX7_takenOff_55 rfl ⟨rfl, rfl, rfl⟩ ?_
        refine j_iinc 61 (lv' := [(0, _), (1, _), (2, _), (3, _), (4, _)]) dX7_takenOff_58 rfl rfl ⟨rfl, rfl⟩ ?_
        refine j_goto 20 dX7_takenOff_61 ?_
        refine j_eqM (M' := [(m0, jO 7 [.int (iI thr), .int (iI ask), .int (iI fnd), .ref m1, .ref m2, .ref m3, .int (iI n), .int (iI wd), .ref m4, .ref m5, .int (iI mm), .ref m6, .ref m7, .int (iI um), .ref m8, .ref m9, .ref m10, .ref m11, .int (iI ((P.length : Nat) : Int)), .int (iI nd), .ref m12, .int (iI pal)]), (m4, jA E 48 it), (m11, jA E 48 pi)]) (by rw [List.length_cons, show ((P.length + 1 : Nat) : Int) - 1 = (P.length : Int) by omega]; rfl) ?_
        exact ih (2 * m) (z + 1) hp.2 (by omega) (by rw [show z + 1 + tkN ((tI it) (fr + c)) P = z + (tkN ((tI it) (fr + c)) P + 1) by omega]; exact kk)

set_option maxRecDepth 100000 in
set_option maxHeartbeats 4000000 in
theorem lp7_takenOff (E : jD) (fnd : Int) (ask : Int) (wd : Int) (n : Int) (mm : Int) (um : Int) (nd : Int) (m0 : Nat) (m1 : Nat) (m2 : Nat) (m3 : Nat) (m4 : Nat) (m5 : Nat) (m6 : Nat) (m7 : Nat) (m8 : Nat) (m9 : Nat) (m10 : Nat) (m11 : Nat) (m12 : Nat) (thr : Int) (pal : Int) (it : Nat → Int32) (fr k : Nat) (hl : fr + k < 48) : ∀ (d : Nat) (c : Nat) (z : Int) (pi : Nat → Int32), k + 1 - c < d → (c ≤ k + 1) → (c = k + 1 → z = (tkF (tI it) fr k : Nat)) → (pileIs pi (shG (tI it) fr c).1) → J E Y_X7_takenOff (jZm E Y_X7_takenOff (fun rr N0 => ∃ pd2 pi2, rr = some (.int (iI ((tkF (tI it) fr k : Nat) : Int))) ∧ N0 = [(m0, jO 7 [.int (iI thr), .int (iI ask), .int (iI fnd), .ref m1, .ref m2, .ref m3, .int (iI n), .int (iI wd), .ref m4, .ref m5, .int (iI mm), .ref m6, .ref m7, .int (iI um), .ref m8, .ref m9, .ref m10, .ref m11, .int (iI pd2), .int (iI nd), .ref m12, .int (iI pal)]), (m4, jA E 48 it), (m11, jA E 48 pi2)])) 0 0 10 [(0, .ref m0), (1, .int (iI (fr : Int))), (2, .int (iI (k : Int))), (3, .int (iI (z : Int))), (4, .int (iI ((fr + c : Nat) : Int)))] [] [(m0, jO 7 [.int (iI thr), .int (iI ask), .int (iI fnd), .ref m1, .ref m2, .ref m3, .int (iI n), .int (iI wd), .ref m4, .ref m5, .int (iI mm), .ref m6, .ref m7, .int (iI um), .ref m8, .ref m9, .ref m10, .ref m11, .int (iI ((shG (tI it) fr c).1.length : Nat)), .int (iI nd), .ref m12, .int (iI pal)]), (m4, jA E 48 it), (m11, jA E 48 pi)] := by
  intro d
  induction d with
  | zero => intros; omega
  | succ d ih =>
    intro c z pi hd hc hz hp
    have hs := shG_len (tI it) fr c
    refine j_iload 12 dX7_takenOff_10 rfl ?_
    refine j_iload_1 13 dX7_takenOff_12 rfl ?_
    refine j_iload_2 14 dX7_takenOff_13 rfl ?_
    refine j_iadd 15 dX7_takenOff_14 ?_
    refine j_icmp_gt 96 18 dX7_takenOff_15 (by first | with_reducible exact iI_rng _ | with_reducible exact bI_r _ | exact ⟨by omega, by omega⟩) (by first | with_reducible exact iI_rng _ | with_reducible exact bI_r _ | exact ⟨by omega, by omega⟩) (fun q15 => ?_) (fun q15 => ?_)
    · have e : c = k + 1 := by omega
      refine j_iload_3 97 dX7_takenOff_96 rfl ?_
      exact j_iret dX7_takenOff_97 rfl rfl ⟨_, pi, by rw [hz e], rfl⟩
    · refine j_iconst 19 dX7_takenOff_18 ?_
      refine j_istore_3 20 (lv' := [(0, _), (1, _), (2, _), (3, _), (4, _)]) dX7_takenOff_19 rfl ⟨rfl, rfl⟩ ?_
      refine lp7_takenOff_in E fnd ask wd n mm um nd m0 m1 m2 m3 m4 m5 m6 m7 m8 m9 m10 m11 m12 thr pal it pi _ fr k c (by omega) _ (shG (tI it) fr c).2 0 hp (by omega) ?_
      have hq := popF_len ((tI it) (fr + c)) (shG (tI it) fr c).1 (shG (tI it) fr c).2
      refine j_aload_0 65 dX7_takenOff_64 rfl ?_
      refine j_get 68 0 gf_X7_40 dX7_takenOff_65 rfl rfl ?_
      refine j_aload_0 69 dX7_takenOff_68 rfl ?_
      refine j_get 72 0 gf_X7_84 dX7_takenOff_69 rfl rfl ?_
      refine j_aload_0 73 dX7_takenOff_72 rfl ?_
      refine j_get 76 0 gf_X7_19 dX7_takenOff_73 rfl rfl ?_
      refine j_iload 78 dX7_takenOff_76 rfl ?_
      refine j_ialdx 79 1 _ dX7_takenOff_78 rfl rfl rfl (by omega) ?_
      refine j_iast 80 2 ((popF ((tI it) (fr + c)) (shG (tI it) fr c).1 (shG (tI it) fr c).2).1.length) dX7_takenOff_79 rfl rfl rfl (by omega) ?_
      refine j_aload_0 81 dX7_takenOff_80 rfl ?_
      refine j_dup 82 dX7_takenOff_81 rfl ?_
      refine j_get 85 0 gf_X7_84 dX7_takenOff_82 rfl rfl ?_
      refine j_iconst 86 dX7_takenOff_85 ?_
      refine j_iadd 87 dX7_takenOff_86 ?_
      refine j_put 90 0 pf_X7_84 dX7_takenOff_87 rfl ⟨rfl, rfl, rfl⟩ ?_
      refine j_iinc 93 (lv' := [(0, _), (1, _), (2, _), (3, _), (4, _)]) dX7_takenOff_90 rfl rfl ⟨rfl, rfl⟩ ?_
      refine j_goto 10 dX7_takenOff_93 ?_
      refine ih (c + 1) _ _ (by omega) (by omega) (fun h => ?_) ?_
      · have e : c = k := by omega
        subst e
        rw [Nat.zero_add]; rfl
      · exact pileIs_push (x := it (fr + c)) (pileIs_pop _ hp)

set_option maxRecDepth 100000 in
set_option maxHeartbeats 4000000 in
theorem c_X7_takenOff (E : jD) (fnd : Int) (ask : Int) (wd : Int) (n : Int) (mm : Int) (um : Int) (nd : Int) (m0 : Nat) (m1 : Nat) (m2 : Nat) (m3 : Nat) (m4 : Nat) (m5 : Nat) (m6 : Nat) (m7 : Nat) (m8 : Nat) (m9 : Nat) (m10 : Nat) (m11 : Nat) (m12 : Nat) (thr : Int) (pd : Int) (pal : Int) (it : Nat → Int32) (pi : Nat → Int32) (fr k : Nat) (hl : fr + k < 48) : MC E Y_X7_takenOff [.ref m0, .int (iI (fr : Int)), .int (iI (k : Int))] [(m0, jO 7 [.int (iI thr), .int (iI ask), .int (iI fnd), .ref m1, .ref m2, .ref m3, .int (iI n), .int (iI wd), .ref m4, .ref m5, .int (iI mm), .ref m6, .ref m7, .int (iI um), .ref m8, .ref m9, .ref m10, .ref m11, .int (iI pd), .int (iI nd), .ref m12, .int (iI pal)]), (m4, jA E 48 it), (m11, jA E 48 pi)] (fun rr N0 => ∃ pd2 pi2, rr = some (.int (iI ((tkF (tI it) fr k : Nat) : Int))) ∧ N0 = [(m0, jO 7 [.int (iI thr), .int (iI ask), .int (iI fnd), .ref m1, .ref m2, .ref m3, .int (iI n), .int (iI wd), .ref m4, .ref m5, .int (iI mm), .ref m6, .ref m7, .int (iI um), .ref m8, .ref m9, .ref m10, .ref m11, .int (iI pd2), .int (iI nd), .ref m12, .int (iI pal)]), (m4, jA E 48 it), (m11, jA E 48 pi2)]) := by
  refine MC.of (by decide) rfl rfl ?_
  refine j_aload_0 1 dX7_takenOff_0 rfl ?_
  refine j_iconst 2 dX7_takenOff_1 ?_
  refine j_put 5 0 pf_X7_84 dX7_takenOff_2 rfl ⟨rfl, rfl, rfl⟩ ?_
  refine j_iconst 6 dX7_takenOff_5 ?_
  refine j_istore_3 7 (lv' := [(0, _), (1, _), (2, _), (3, _)]) dX7_takenOff_6 rfl ⟨rfl, rfl⟩ ?_
  refine j_iload_1 8 dX7_takenOff_7 rfl ?_
  refine j_istore 10 (lv' := [(0, _), (1, _), (2, _), (3, _), (4, _)]) dX7_takenOff_8 rfl ⟨rfl, rfl⟩ ?_
  exact lp7_takenOff E fnd ask wd n mm um nd m0 m1 m2 m3 m4 m5 m6 m7 m8 m9 m10 m11 m12 thr pal it fr k hl (k + 2) 0 0 pi (by omega) (by omega) (by omega) trivial
