set_option maxRecDepth 100000 in
set_option maxHeartbeats 4000000 in
theorem lp_shapeNow_in (E : jD) (x0 x1 x2 x3 x4 x6 : Nat) (wd : Nat) (bl : Int) (n : Nat) (f pl : Nat → Int32) (Z : jZ) (b fr len c : Nat) (hc : fr + c < 48) : ∀ (P : List Int) (m : Nat), pileIs pl P → P.length ≤ 6 →
    J E Y_X3_shapeNow Z 0 0 85 [(0, .ref x0), (1, .int (iI (b : Int))), (2, .int (iI (fr : Int))), (3, .int (iI ((fr + len : Nat) : Int))), (4, .int (iI (((popF ((tI f) (fr + c)) P m).2 : Nat) : Int))), (5, .int (iI (((popF ((tI f) (fr + c)) P m).1.length : Nat) : Int))), (6, .int (iI ((fr + c : Nat) : Int)))] [] [(x0, jO 3 [.ref x1, .ref x3, .ref x4, .ref x6, .int (iI (wd : Int)), .int (iI bl)]), (x1, jO 4 [.ref x2, .int (iI (n : Int))]), (x2, jA E 48 f), (x6, jA E 6 pl)] → J E Y_X3_shapeNow Z 0 0 46 [(0, .ref x0), (1, .int (iI (b : Int))), (2, .int (iI (fr : Int))), (3, .int (iI ((fr + len : Nat) : Int))), (4, .int (iI (m : Int))), (5, .int (iI ((P.length : Nat) : Int))), (6, .int (iI ((fr + c : Nat) : Int)))] [] [(x0, jO 3 [.ref x1, .ref x3, .ref x4, .ref x6, .int (iI (wd : Int)), .int (iI bl)]), (x1, jO 4 [.ref x2, .int (iI (n : Int))]), (x2, jA E 48 f), (x6, jA E 6 pl)] := by
  intro P
  induction P with
  | nil =>
    intro m hp hl kk
    refine j_iload 48 dX3_shapeNow_46 rfl ?_
    refine j_if_le 85 51 dX3_shapeNow_48 (by first | exact iI_rng _ | exact bI_r _ | exact ⟨by omega, by omega⟩) (fun h48 => ?_) (fun h48 => ?_)
    · exact kk
    · exact absurd (show ((List.length ([] : List Int) : Nat) : Int) ≤ 0 from by simp) h48
  | cons t P ih =>
    intro m hp hl kk
    rw [List.length_cons] at hl
    refine j_iload 48 dX3_shapeNow_46 rfl ?_
    refine j_if_le 85 51 dX3_shapeNow_48 (by rw [List.length_cons]; exact ⟨by omega, by omega⟩) (fun h48 => ?_) (fun h48 => ?_)
    · rw [List.length_cons] at h48; omega
    · refine j_aload_0 52 dX3_shapeNow_51 rfl ?_
      refine j_get 55 0 gf_X3_29 dX3_shapeNow_52 rfl rfl ?_
      refine j_iload 57 dX3_shapeNow_55 rfl ?_
      refine j_iconst 58 dX3_shapeNow_57 ?_
      refine j_isub 59 dX3_shapeNow_58 ?_
      refine j_ialdw 60 3 (P.length) (t) dX3_shapeNow_59 rfl rfl (by rw [List.length_cons]; omega) (by omega) (by rw [← hp.1, iI_x]) ?_
      refine j_aload_0 61 dX3_shapeNow_60 rfl ?_
      refine j_get 64 0 gf_X3_12 dX3_shapeNow_61 rfl rfl ?_
      refine j_get 67 1 gf_X3_65 dX3_shapeNow_64 rfl rfl ?_
      refine j_iload 69 dX3_shapeNow_67 rfl ?_
      refine j_iald 70 2 _ dX3_shapeNow_69 rfl rfl rfl (by omega) ?_
      refine j_icmp_le 85 73 dX3_shapeNow_70 (by rw [← hp.1]; exact iI_rng _) (by first | exact iI_rng _ | exact bI_r _ | exact ⟨by omega, by omega⟩) (fun h70 => ?_) (fun h70 => ?_)
      · have e : popF ((tI f) (fr + c)) (t :: P) m = (t :: P, m) := if_neg (by show ¬ (f (fr + c)).toInt < t; omega)
        rw [e] at kk
        exact kk
      · have e : popF ((tI f) (fr + c)) (t :: P) m = popF ((tI f) (fr + c)) P (2 * m) := if_pos (by show (f (fr + c)).toInt < t; omega)
        rw [e] at kk
        refine j_iinc 76 (lv' := [(0, _), (1, _), (2, _), (3, _), (4, _), (5, _), (6, _)]) dX3_shapeNow_73 rfl rfl ⟨rfl, rfl⟩ ?_
        refine j_iconst 77 dX3_shapeNow_76 ?_
        refine j_iload 79 dX3_shapeNow_77 rfl ?_
        refine j_imul 80 dX3_shapeNow_79 ?_
        refine j_istore 82 (lv' := [(0, _), (1, _), (2, _), (3, _), (4, _), (5, _), (6, _)]) dX3_shapeNow_80 rfl ⟨rfl, rfl⟩ ?_
        refine j_goto 46 dX3_shapeNow_82 ?_
        refine j_eqL (lv' := [(0, .ref x0), (1, .int (iI (b : Int))), (2, .int (iI (fr : Int))), (3, .int (iI ((fr + len : Nat) : Int))), (4, .int (iI (((2 * m : Nat) : Int) : Int))), (5, .int (iI ((P.length : Nat) : Int))), (6, .int (iI ((fr + c : Nat) : Int)))]) (by rw [List.length_cons, show ((P.length + 1 : Nat) : Int) + -1 = (P.length : Int) by omega]; rfl) ?_
        exact ih (2 * m) hp.2 (by omega) kk

set_option maxRecDepth 100000 in
set_option maxHeartbeats 4000000 in
theorem lp_shapeNow (E : jD) (x0 x1 x2 x3 x4 x6 : Nat) (wd : Nat) (bl : Int) (n : Nat) (f : Nat → Int32) (b fr len : Nat) (hl : len ≤ 6) (hf : fr + len ≤ 48) : ∀ (d : Nat) (c : Nat) (pl : Nat → Int32), len - c < d → (c ≤ len) → (pileIs pl (shG (tI f) fr c).1) → J E Y_X3_shapeNow (jZm E Y_X3_shapeNow (fun r N0 => ∃ pl2, r = some (.int (iI ((shG (tI f) fr len).2 : Nat))) ∧ N0 = [(x0, jO 3 [.ref x1, .ref x3, .ref x4, .ref x6, .int (iI (wd : Int)), .int (iI bl)]), (x1, jO 4 [.ref x2, .int (iI (n : Int))]), (x2, jA E 48 f), (x6, jA E 6 pl2)])) 0 0 33 [(0, .ref x0), (1, .int (iI (b : Int))), (2, .int (iI (fr : Int))), (3, .int (iI ((fr + len : Nat) : Int))), (4, .int (iI (((shG (tI f) fr c).2 : Nat) : Int))), (5, .int (iI (((shG (tI f) fr c).1.length : Nat) : Int))), (6, .int (iI ((fr + c : Nat) : Int)))] [] [(x0, jO 3 [.ref x1, .ref x3, .ref x4, .ref x6, .int (iI (wd : Int)), .int (iI bl)]), (x1, jO 4 [.ref x2, .int (iI (n : Int))]), (x2, jA E 48 f), (x6, jA E 6 pl)] := by
  intro d
  induction d with
  | zero => intros; omega
  | succ d ih =>
    intro c pl hd hc hp
    have hs := shG_len (tI f) fr c
    refine j_iload 35 dX3_shapeNow_33 rfl ?_
    refine j_iload_3 36 dX3_shapeNow_35 rfl ?_
    refine j_icmp_ge 119 39 dX3_shapeNow_36 (by first | exact iI_rng _ | exact bI_r _ | exact ⟨by omega, by omega⟩) (by first | exact iI_rng _ | exact bI_r _ | exact ⟨by omega, by omega⟩) (fun h36 => ?_) (fun h36 => ?_)
    · have e : c = len := by omega
      subst e
      refine j_iload 121 dX3_shapeNow_119 rfl ?_
      exact j_iret dX3_shapeNow_121 rfl rfl ⟨pl, rfl, rfl⟩
    · refine j_iload 41 dX3_shapeNow_39 rfl ?_
      refine j_bipush 43 dX3_shapeNow_41 (by decide +kernel) ?_
      refine j_icmp_ge 119 46 dX3_shapeNow_43 (by first | exact iI_rng _ | exact bI_r _ | exact ⟨by omega, by omega⟩) (by first | exact iI_rng _ | exact bI_r _ | exact ⟨by omega, by omega⟩) (fun h43 => ?_) (fun h43 => ?_)
      · omega
      · refine lp_shapeNow_in E x0 x1 x2 x3 x4 x6 wd bl n f pl _ b fr len c (by omega) _ _ hp (by omega) ?_
        have hq := popF_len ((tI f) (fr + c)) (shG (tI f) fr c).1 (shG (tI f) fr c).2
        refine j_aload_0 86 dX3_shapeNow_85 rfl ?_
        refine j_get 89 0 gf_X3_29 dX3_shapeNow_86 rfl rfl ?_
        refine j_iload 91 dX3_shapeNow_89 rfl ?_
        refine j_aload_0 92 dX3_shapeNow_91 rfl ?_
        refine j_get 95 0 gf_X3_12 dX3_shapeNow_92 rfl rfl ?_
        refine j_get 98 1 gf_X3_65 dX3_shapeNow_95 rfl rfl ?_
        refine j_iload 100 dX3_shapeNow_98 rfl ?_
        refine j_ialdx 101 2 _ dX3_shapeNow_100 rfl rfl rfl (by omega) ?_
        refine j_iast 102 3 ((popF ((tI f) (fr + c)) (shG (tI f) fr c).1 (shG (tI f) fr c).2).1.length) dX3_shapeNow_101 rfl rfl rfl (by omega) ?_
        refine j_iinc 105 (lv' := [(0, _), (1, _), (2, _), (3, _), (4, _), (5, _), (6, _)]) dX3_shapeNow_102 rfl rfl ⟨rfl, rfl⟩ ?_
        refine j_iconst 106 dX3_shapeNow_105 ?_
        refine j_iload 108 dX3_shapeNow_106 rfl ?_
        refine j_imul 109 dX3_shapeNow_108 ?_
        refine j_iconst 110 dX3_shapeNow_109 ?_
        refine j_iadd 111 dX3_shapeNow_110 ?_
        refine j_istore 113 (lv' := [(0, _), (1, _), (2, _), (3, _), (4, _), (5, _), (6, _)]) dX3_shapeNow_111 rfl ⟨rfl, rfl⟩ ?_
        refine j_iinc 116 (lv' := [(0, _), (1, _), (2, _), (3, _), (4, _), (5, _), (6, _)]) dX3_shapeNow_113 rfl rfl ⟨rfl, rfl⟩ ?_
        refine j_goto 33 dX3_shapeNow_116 ?_
        refine ih (c + 1) _ (by omega) (by omega) ?_
        exact pileIs_push (x := f (fr + c)) (pileIs_pop _ hp)

set_option maxRecDepth 100000 in
set_option maxHeartbeats 4000000 in
theorem c_X3_shapeNow (E : jD) (x0 x1 x2 x3 x4 x6 : Nat) (wd : Nat) (bl : Int) (n : Nat) (f pl : Nat → Int32) (b fr : Nat) (hw : 1 ≤ wd ∧ wd ≤ 6) (hn : n ≤ 48) (hfr : b * wd = fr) (hb : fr ≤ n) (hbb : b ≤ 48) : MC E Y_X3_shapeNow [.ref x0, .int (iI (b : Int))] [(x0, jO 3 [.ref x1, .ref x3, .ref x4, .ref x6, .int (iI (wd : Int)), .int (iI bl)]), (x1, jO 4 [.ref x2, .int (iI (n : Int))]), (x2, jA E 48 f), (x6, jA E 6 pl)] (fun r N0 => ∃ pl2, r = some (.int (iI ((shG (tI f) fr (min wd (n - fr))).2 : Nat))) ∧ N0 = [(x0, jO 3 [.ref x1, .ref x3, .ref x4, .ref x6, .int (iI (wd : Int)), .int (iI bl)]), (x1, jO 4 [.ref x2, .int (iI (n : Int))]), (x2, jA E 48 f), (x6, jA E 6 pl2)]) := by
  refine MC.of (by decide) rfl rfl ?_
  refine j_iload_1 1 dX3_shapeNow_0 rfl ?_
  refine j_aload_0 2 dX3_shapeNow_1 rfl ?_
  refine j_get 5 0 gf_X3_32 dX3_shapeNow_2 rfl rfl ?_
  refine j_imul 6 dX3_shapeNow_5 ?_
  refine j_top ((fr : Nat) : Int) (congrArg iI (by rw [← hfr]; rfl)) ?_
  refine j_istore_2 7 (lv' := [(0, _), (1, _), (2, _)]) dX3_shapeNow_6 rfl ⟨rfl, rfl⟩ ?_
  refine j_iload_2 8 dX3_shapeNow_7 rfl ?_
  refine j_aload_0 9 dX3_shapeNow_8 rfl ?_
  refine j_get 12 0 gf_X3_32 dX3_shapeNow_9 rfl rfl ?_
  refine j_iadd 13 dX3_shapeNow_12 ?_
  refine j_aload_0 14 dX3_shapeNow_13 rfl ?_
  refine j_get 17 0 gf_X3_12 dX3_shapeNow_14 rfl rfl ?_
  refine j_get 20 1 gf_X3_47 dX3_shapeNow_17 rfl rfl ?_
  refine j_min 23 wml_X3_68 dX3_shapeNow_20 (by first | exact iI_rng _ | exact bI_r _ | exact ⟨by omega, by omega⟩) (by first | exact iI_rng _ | exact bI_r _ | exact ⟨by omega, by omega⟩) rfl ?_
  refine j_top ((fr + min wd (n - fr) : Nat) : Int) (congrArg iI (by omega)) ?_
  refine j_istore_3 24 (lv' := [(0, _), (1, _), (2, _), (3, _)]) dX3_shapeNow_23 rfl ⟨rfl, rfl⟩ ?_
  refine j_iconst 25 dX3_shapeNow_24 ?_
  refine j_istore 27 (lv' := [(0, _), (1, _), (2, _), (3, _), (4, _)]) dX3_shapeNow_25 rfl ⟨rfl, rfl⟩ ?_
  refine j_iconst 28 dX3_shapeNow_27 ?_
  refine j_istore 30 (lv' := [(0, _), (1, _), (2, _), (3, _), (4, _), (5, _)]) dX3_shapeNow_28 rfl ⟨rfl, rfl⟩ ?_
  refine j_iload_2 31 dX3_shapeNow_30 rfl ?_
  refine j_istore 33 (lv' := [(0, _), (1, _), (2, _), (3, _), (4, _), (5, _), (6, _)]) dX3_shapeNow_31 rfl ⟨rfl, rfl⟩ ?_
  exact lp_shapeNow E x0 x1 x2 x3 x4 x6 wd bl n f b fr (min wd (n - fr)) (by omega) (by omega) (min wd (n - fr) + 1) 0 pl (by omega) (by omega) trivial

theorem jr_nat {n : Nat} (h : n < 2147483648) : jr (n : Int) := ⟨by omega, by omega⟩
theorem dg_shr : ∀ k, k < 32 → (((iI ((k : Nat) : Int)) &&& 31).toBitVec.smod 32).toNat = k := by decide +kernel
theorem iI_shrk {s k : Nat} (h : s < 2147483648) (hk : k < 32) : iI (s : Int) >>> (iI (k : Int) &&& 31) = iI ((s / 2 ^ k : Nat) : Int) := iI_shr (k : Int) k h (dg_shr k hk)

set_option maxRecDepth 100000 in
set_option maxHeartbeats 4000000 in
theorem lp_leadingDigit (E : jD) (s : Nat) (hs : s < 4096) : ∀ (d : Nat) (k : Nat), k < d → (k ≤ 11) → (ldF s k = ldF s 11) → J E Y_X3_leadingDigit (jZm E Y_X3_leadingDigit (fun r N0 => r = some (.int (iI ((ldF s 11 : Nat)))) ∧ N0 = [])) 0 0 3 [(0, .int (iI (s : Int))), (1, .int (iI (k : Int)))] [] [] := by
  intro d
  induction d with
  | zero => intros; omega
  | succ d ih =>
    intro k hd hk he
    refine j_iload_1 4 dX3_leadingDigit_3 rfl ?_
    refine j_if_le 19 7 dX3_leadingDigit_4 (by first | exact iI_rng _ | exact bI_r _ | exact ⟨by omega, by omega⟩) (fun h4 => ?_) (fun h4 => ?_)
    · have e : k = 0 := by omega
      subst e
      refine j_iload_1 20 dX3_leadingDigit_19 rfl ?_
      exact j_iret dX3_leadingDigit_20 rfl rfl ⟨congrArg (fun z => some (Value.int (iI z))) (by rw [← he]; first | rfl | rw [e2]), rfl⟩
    · obtain ⟨k, rfl⟩ : ∃ q, k = q + 1 := ⟨k - 1, by omega⟩
      have hle := Nat.div_le_self s (2 ^ (k + 1))
      refine j_iload_0 8 dX3_leadingDigit_7 rfl ?_
      refine j_iload_1 9 dX3_leadingDigit_8 rfl ?_
      refine j_ishr 10 dX3_leadingDigit_9 ?_
      refine j_top _ (iI_shrk (by omega) (by omega)) ?_
      refine j_if_ne 19 13 dX3_leadingDigit_10 (jr_nat (by omega)) (fun h10 => ?_) (fun h10 => ?_)
      · have e2 : ldF s (k + 1) = k + 1 := if_neg (by omega)
        refine j_iload_1 20 dX3_leadingDigit_19 rfl ?_
        exact j_iret dX3_leadingDigit_20 rfl rfl ⟨congrArg (fun z => some (Value.int (iI z))) (by rw [← he]; first | rfl | rw [e2]), rfl⟩
      · have e2 : ldF s (k + 1) = ldF s k := if_pos (by omega)
        refine j_iinc 16 (lv' := [(0, _), (1, _)]) dX3_leadingDigit_13 rfl rfl ⟨rfl, rfl⟩ ?_
        refine j_goto 3 dX3_leadingDigit_16 ?_
        have h := ih k (by omega) (by omega) (by rw [← he, e2])
        rw [show ((k : Nat) : Int) = ((k + 1 : Nat) : Int) + -1 by omega] at h
        exact h

set_option maxRecDepth 100000 in
set_option maxHeartbeats 4000000 in
theorem c_X3_leadingDigit (E : jD) (s : Nat) (hs : s < 4096) : MC E Y_X3_leadingDigit [.int (iI (s : Int))] [] (fun r N0 => r = some (.int (iI ((ldF s 11 : Nat)))) ∧ N0 = []) := by
  refine MC.of (by decide) rfl rfl ?_
  refine j_bipush 2 dX3_leadingDigit_0 (by decide +kernel) ?_
  refine j_istore_1 3 (lv' := [(0, _), (1, _)]) dX3_leadingDigit_2 rfl ⟨rfl, rfl⟩ ?_
  exact lp_leadingDigit E s hs 12 11 (by omega) (by omega) rfl

set_option maxRecDepth 100000 in
set_option maxHeartbeats 4000000 in
theorem lp_tableEntry2 (E : jD) (x0 x1 x3 x4 x6 : Nat) (wd bl : Int) (pl : Nat → Int32) (s : Nat) (i j p : Int) (hi : jr i) (h : Nat) (hh : h ≤ 6) : ∀ (d : Nat) (k : Nat), h - k < d → (k ≤ h) → (fsF (tI pl) i j (h - k) k = teF s i j) → J E Y_X3_tableEntry (jZm E Y_X3_tableEntry (fun r N0 => ∃ pl2, r = some (.int (iI (teF s i j))) ∧ N0 = [(x0, jO 3 [.ref x1, .ref x3, .ref x4, .ref x6, .int (iI wd), .int (iI bl)]), (x6, jA E 6 pl2)])) 0 0 78 [(0, .ref x0), (1, .int (iI (s : Int))), (2, .int (iI i)), (3, .int (iI j)), (4, .int (iI (h : Int))), (5, .int (iI p)), (6, .int (iI (k : Int)))] [] [(x0, jO 3 [.ref x1, .ref x3, .ref x4, .ref x6, .int (iI wd), .int (iI bl)]), (x6, jA E 6 pl)] := by
  intro d
  induction d with
  | zero => intros; omega
  | succ d ih =>
    intro k hd hk he
    refine j_iload 80 dX3_tableEntry_78 rfl ?_
    refine j_iload 82 dX3_tableEntry_80 rfl ?_
    refine j_icmp_ge 110 85 dX3_tableEntry_82 (by first | exact iI_rng _ | exact bI_r _ | exact ⟨by omega, by omega⟩) (by first | exact iI_rng _ | exact bI_r _ | exact ⟨by omega, by omega⟩) (fun h82 => ?_) (fun h82 => ?_)
    · have e : k = h := by omega
      subst e
      rw [Nat.sub_self] at he
      refine j_iload_3 111 dX3_tableEntry_110 rfl ?_
      exact j_iret dX3_tableEntry_111 rfl rfl ⟨pl, congrArg (fun z => some (Value.int (iI z))) (by rw [← he]; rfl), rfl⟩
    · obtain ⟨c, hc⟩ : ∃ c, h - k = c + 1 := ⟨h - k - 1, by omega⟩
      rw [hc] at he
      refine j_aload_0 86 dX3_tableEntry_85 rfl ?_
      refine j_get 89 0 gf_X3_29 dX3_tableEntry_86 rfl rfl ?_
      refine j_iload 91 dX3_tableEntry_89 rfl ?_
      refine j_iald 92 1 _ dX3_tableEntry_91 rfl rfl rfl (by omega) ?_
      refine j_iload_2 93 dX3_tableEntry_92 rfl ?_
      refine j_icmp_lt 104 96 dX3_tableEntry_93 (by first | exact iI_rng _ | exact bI_r _ | exact ⟨by omega, by omega⟩) (by first | exact iI_rng _ | exact bI_r _ | exact ⟨by omega, by omega⟩) (fun h93 => ?_) (fun h93 => ?_)
      · have e2 : fsF (tI pl) i j (c + 1) k = fsF (tI pl) i j c (k + 1) := if_neg (by show ¬ i ≤ (pl k).toInt; omega)
        refine j_iinc 107 (lv' := [(0, _), (1, _), (2, _), (3, _), (4, _), (5, _), (6, _)]) dX3_tableEntry_104 rfl rfl ⟨rfl, rfl⟩ ?_
        refine j_goto 78 dX3_tableEntry_107 ?_
        exact ih (k + 1) (by omega) (by omega) (by rw [show h - (k + 1) = c by omega, ← e2, he])
      · have e2 : fsF (tI pl) i j (c + 1) k = (pl k).toInt := if_pos (by show i ≤ (pl k).toInt; omega)
        refine j_aload_0 97 dX3_tableEntry_96 rfl ?_
        refine j_get 100 0 gf_X3_29 dX3_tableEntry_97 rfl rfl ?_
        refine j_iload 102 dX3_tableEntry_100 rfl ?_
        refine j_iald 103 1 _ dX3_tableEntry_102 rfl rfl rfl (by omega) ?_
        exact j_iret dX3_tableEntry_103 rfl rfl ⟨pl, congrArg (fun z => some (Value.int (iI z))) (by rw [← he, e2]), rfl⟩

set_option maxRecDepth 100000 in
set_option maxHeartbeats 4000000 in
theorem lp_tableEntry (E : jD) (x0 x1 x3 x4 x6 : Nat) (wd bl : Int) (s : Nat) (hs : s < 4096) (i j : Int) (hi : jr i) (hj : 0 ≤ j ∧ j ≤ 6) : ∀ (d : Nat) (d0 : Nat) (P : List Int) (p : Int) (pl : Nat → Int32), d0 < d → (d0 ≤ 11) → (0 ≤ p ∧ p ≤ 7) → (P.length ≤ 6) → (pileIs pl P) → (teS s j d0 P p = teS s j (ldF s 11) [] 0) → J E Y_X3_tableEntry (jZm E Y_X3_tableEntry (fun r N0 => ∃ pl2, r = some (.int (iI (teF s i j))) ∧ N0 = [(x0, jO 3 [.ref x1, .ref x3, .ref x4, .ref x6, .int (iI wd), .int (iI bl)]), (x6, jA E 6 pl2)])) 0 0 14 [(0, .ref x0), (1, .int (iI (s : Int))), (2, .int (iI i)), (3, .int (iI j)), (4, .int (iI ((P.length : Nat) : Int))), (5, .int (iI p)), (6, .int (iI ((d0 : Int) - 1)))] [] [(x0, jO 3 [.ref x1, .ref x3, .ref x4, .ref x6, .int (iI wd), .int (iI bl)]), (x6, jA E 6 pl)] := by
  intro d
  induction d with
  | zero => intros; omega
  | succ d ih =>
    intro d0 P p pl hd hd0 hp0 hl hp he
    refine j_iload 16 dX3_tableEntry_14 rfl ?_
    refine j_if_lt 75 19 dX3_tableEntry_16 (by first | exact iI_rng _ | exact bI_r _ | exact ⟨by omega, by omega⟩) (fun h16 => ?_) (fun h16 => ?_)
    · have e : d0 = 0 := by omega
      subst e
      have e3 : teS s j 0 P p = (P, p) := rfl
      rw [e3] at he
      refine j_iconst 76 dX3_tableEntry_75 ?_
      refine j_istore 78 (lv' := [(0, _), (1, _), (2, _), (3, _), (4, _), (5, _), (6, _)]) dX3_tableEntry_76 rfl ⟨rfl, rfl⟩ ?_
      refine lp_tableEntry2 E x0 x1 x3 x4 x6 wd bl pl s i j p hi P.length hl (P.length + 1) 0 (by omega) (by omega) ?_
      rw [Nat.sub_zero, fsF_sc i P j hp]
      unfold teF
      rw [← he]
    · obtain ⟨d0, rfl⟩ : ∃ q, d0 = q + 1 := ⟨d0 - 1, by omega⟩
      refine j_iload 21 dX3_tableEntry_19 rfl ?_
      refine j_iload_3 22 dX3_tableEntry_21 rfl ?_
      refine j_icmp_gt 75 25 dX3_tableEntry_22 (by first | exact iI_rng _ | exact bI_r _ | exact ⟨by omega, by omega⟩) (by first | exact iI_rng _ | exact bI_r _ | exact ⟨by omega, by omega⟩) (fun h22 => ?_) (fun h22 => ?_)
      · have e3 : teS s j (d0 + 1) P p = (P, p) := if_pos (by omega)
        rw [e3] at he
        refine j_iconst 76 dX3_tableEntry_75 ?_
        refine j_istore 78 (lv' := [(0, _), (1, _), (2, _), (3, _), (4, _), (5, _), (6, _)]) dX3_tableEntry_76 rfl ⟨rfl, rfl⟩ ?_
        refine lp_tableEntry2 E x0 x1 x3 x4 x6 wd bl pl s i j p hi P.length hl (P.length + 1) 0 (by omega) (by omega) ?_
        rw [Nat.sub_zero, fsF_sc i P j hp]
        unfold teF
        rw [← he]
      · rw [show teS s j (d0 + 1) P p = if s / 2 ^ d0 % 2 = 0 then teS s j d0 P.tail p else if P.length < 6 then teS s j d0 (p :: P) (p + 1) else teS s j d0 P p from if_neg (by omega)] at he
        refine j_iload_1 26 dX3_tableEntry_25 rfl ?_
        refine j_iload 28 dX3_tableEntry_26 rfl ?_
        refine j_eqS (st' := [.int (iI ((d0 : Nat) : Int)), .int (iI (s : Int))]) (by rw [show ((d0 + 1 : Nat) : Int) - 1 = (d0 : Int) by omega]) ?_
        refine j_ishr 29 dX3_tableEntry_28 ?_
        refine j_top _ (iI_shrk (by omega) (by omega)) ?_
        have hle := Nat.div_le_self s (2 ^ d0)
        refine j_iconst 30 dX3_tableEntry_29 ?_
        refine j_iand 31 dX3_tableEntry_30 ?_
        refine j_top _ (iI_and 1 1 (by omega) (by decide +kernel)) ?_
        refine j_if_ne 47 34 dX3_tableEntry_31 (by first | exact iI_rng _ | exact bI_r _ | exact ⟨by omega, by omega⟩) (fun h31 => ?_) (fun h31 => ?_)
        · rw [if_neg (show ¬ s / 2 ^ d0 % 2 = 0 by omega)] at he
          refine j_iload 49 dX3_tableEntry_47 rfl ?_
          refine j_bipush 51 dX3_tableEntry_49 (by decide +kernel) ?_
          refine j_icmp_ge 69 54 dX3_tableEntry_51 (by first | exact iI_rng _ | exact bI_r _ | exact ⟨by omega, by omega⟩) (by first | exact iI_rng _ | exact bI_r _ | exact ⟨by omega, by omega⟩) (fun h51 => ?_) (fun h51 => ?_)
          · rw [if_neg (by omega)] at he
            have hq : P.length = 6 := by omega
            refine j_iinc 72 (lv' := [(0, _), (1, _), (2, _), (3, _), (4, _), (5, _), (6, _)]) dX3_tableEntry_69 rfl rfl ⟨rfl, rfl⟩ ?_
            refine j_goto 14 dX3_tableEntry_72 ?_
            have h := ih d0 P (p) pl (by omega) (by omega) (by omega) (by first | omega | (rw [List.length_tail]; omega) | (rw [List.length_cons]; omega)) hp he
            rw [show ((d0 : Nat) : Int) - 1 = ((d0 + 1 : Nat) : Int) - 1 + -1 by omega] at h
            exact h
          · rw [if_pos (by omega)] at he
            refine j_aload_0 55 dX3_tableEntry_54 rfl ?_
            refine j_get 58 0 gf_X3_29 dX3_tableEntry_55 rfl rfl ?_
            refine j_iload 60 dX3_tableEntry_58 rfl ?_
            refine j_iload 62 dX3_tableEntry_60 rfl ?_
            refine j_iast 63 1 (P.length) dX3_tableEntry_62 rfl rfl rfl (by omega) ?_
            refine j_iinc 66 (lv' := [(0, _), (1, _), (2, _), (3, _), (4, _), (5, _), (6, _)]) dX3_tableEntry_63 rfl rfl ⟨rfl, rfl⟩ ?_
            refine j_iinc 69 (lv' := [(0, _), (1, _), (2, _), (3, _), (4, _), (5, _), (6, _)]) dX3_tableEntry_66 rfl rfl ⟨rfl, rfl⟩ ?_
            refine j_iinc 72 (lv' := [(0, _), (1, _), (2, _), (3, _), (4, _), (5, _), (6, _)]) dX3_tableEntry_69 rfl rfl ⟨rfl, rfl⟩ ?_
            refine j_goto 14 dX3_tableEntry_72 ?_
            have h := ih d0 (p :: P) (p + 1) _ (by omega) (by omega) (by omega) (by first | omega | (rw [List.length_tail]; omega) | (rw [List.length_cons]; omega)) (by have h0 := pileIs_push (x := iI p) hp; rw [iI_t ⟨by omega, by omega⟩] at h0; exact h0) he
            rw [show ((d0 : Nat) : Int) - 1 = ((d0 + 1 : Nat) : Int) - 1 + -1 by omega] at h
            exact h
        · rw [if_pos (show s / 2 ^ d0 % 2 = 0 by omega)] at he
          refine j_iconst 35 dX3_tableEntry_34 ?_
          refine j_iload 37 dX3_tableEntry_35 rfl ?_
          refine j_iconst 38 dX3_tableEntry_37 ?_
          refine j_isub 39 dX3_tableEntry_38 ?_
          refine j_max 42 wml_X3_77 dX3_tableEntry_39 (by first | exact iI_rng _ | exact bI_r _ | exact ⟨by omega, by omega⟩) (by first | exact iI_rng _ | exact bI_r _ | exact ⟨by omega, by omega⟩) rfl ?_
          refine j_top ((P.tail.length : Nat) : Int) (congrArg iI (by rw [List.length_tail]; omega)) ?_
          refine j_istore 44 (lv' := [(0, _), (1, _), (2, _), (3, _), (4, _), (5, _), (6, _)]) dX3_tableEntry_42 rfl ⟨rfl, rfl⟩ ?_
          refine j_goto 69 dX3_tableEntry_44 ?_
          refine j_iinc 72 (lv' := [(0, _), (1, _), (2, _), (3, _), (4, _), (5, _), (6, _)]) dX3_tableEntry_69 rfl rfl ⟨rfl, rfl⟩ ?_
          refine j_goto 14 dX3_tableEntry_72 ?_
          have h := ih d0 P.tail (p) pl (by omega) (by omega) (by omega) (by first | omega | (rw [List.length_tail]; omega) | (rw [List.length_cons]; omega)) (by cases P with | nil => exact trivial | cons t P => exact hp.2) he
          rw [show ((d0 : Nat) : Int) - 1 = ((d0 + 1 : Nat) : Int) - 1 + -1 by omega] at h
          exact h

set_option maxRecDepth 100000 in
set_option maxHeartbeats 4000000 in
theorem c_X3_tableEntry (E : jD) (x0 x1 x3 x4 x6 : Nat) (wd bl : Int) (pl : Nat → Int32) (s : Nat) (i j : Int) (hs : s < 4096) (hi : jr i) (hj : 0 ≤ j ∧ j ≤ 6) : MC E Y_X3_tableEntry [.ref x0, .int (iI (s : Int)), .int (iI i), .int (iI j)] [(x0, jO 3 [.ref x1, .ref x3, .ref x4, .ref x6, .int (iI wd), .int (iI bl)]), (x6, jA E 6 pl)] (fun r N0 => ∃ pl2, r = some (.int (iI (teF s i j))) ∧ N0 = [(x0, jO 3 [.ref x1, .ref x3, .ref x4, .ref x6, .int (iI wd), .int (iI bl)]), (x6, jA E 6 pl2)]) := by
  refine MC.of (by decide) rfl rfl ?_
  refine j_iconst 1 dX3_tableEntry_0 ?_
  refine j_istore 3 (lv' := [(0, _), (1, _), (2, _), (3, _), (4, _)]) dX3_tableEntry_1 rfl ⟨rfl, rfl⟩ ?_
  refine j_iconst 4 dX3_tableEntry_3 ?_
  refine j_istore 6 (lv' := [(0, _), (1, _), (2, _), (3, _), (4, _), (5, _)]) dX3_tableEntry_4 rfl ⟨rfl, rfl⟩ ?_
  refine j_iload_1 7 dX3_tableEntry_6 rfl ?_
  refine j_callSi 10 Y_X3_leadingDigit [] [_] (c_X3_leadingDigit E s hs) m_X3_leadingDigit wml_X3_74 dX3_tableEntry_7 rfl rfl rfl rfl rfl rfl rfl ?_
  refine j_iconst 11 dX3_tableEntry_10 ?_
  refine j_isub 12 dX3_tableEntry_11 ?_
  refine j_istore 14 (lv' := [(0, _), (1, _), (2, _), (3, _), (4, _), (5, _), (6, _)]) dX3_tableEntry_12 rfl ⟨rfl, rfl⟩ ?_
  have hld := ldF_le s 11
  exact lp_tableEntry E x0 x1 x3 x4 x6 wd bl s hs i j hi hj 12 (ldF s 11) [] 0 pl (by omega) (by omega) (by omega) (by simp) trivial rfl
