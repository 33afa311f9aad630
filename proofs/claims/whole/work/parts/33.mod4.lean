set_option maxRecDepth 100000 in
set_option maxHeartbeats 4000000 in
theorem lp7_isTree3 (E : jD) (fnd : Int) (ask : Int) (wd : Int) (n : Int) (mm : Int) (um : Int) (nd : Int) (m0 : Nat) (m1 : Nat) (m2 : Nat) (m3 : Nat) (m4 : Nat) (m5 : Nat) (m6 : Nat) (m7 : Nat) (m8 : Nat) (m9 : Nat) (m10 : Nat) (m11 : Nat) (m12 : Nat) (thr : Int) (pd : Int) (pal : Int) (rn : Nat → Int) (rw0 : Nat → Int32) (r n2 : Nat) (hr4 : r < 4) (hn2 : rn r = (n2 : Int)) (hn48 : n2 ≤ 48) (hp : inT (fun k => (rw0 (48 * r + k)).toInt) n2) (Z : jZ) (rc w0 : Int) (k : Nat) : ∀ (d : Nat) (d0 : Nat) (z e : Int), d0 < d → (d0 ≤ n2 ∧ e = n2 - d0) → (z = -1 ∨ (0 ≤ z ∧ z < n2)) → (∀ x, J E Y_X7_isTree Z 0 0 131 [(0, .ref m0), (1, .int (iI (r : Int))), (2, .int (iI (n2 : Int))), (3, .int (iI (rc : Int))), (4, .int (iI (w0))), (5, .int (iI (k : Int))), (6, .int (iI (wkF (fun k => (rw0 (48 * r + k)).toInt) d0 z))), (7, x)] [] [(m0, jO 7 [.int (iI thr), .int (iI ask), .int (iI fnd), .ref m1, .ref m2, .ref m3, .int (iI n), .int (iI wd), .ref m4, .ref m5, .int (iI mm), .ref m6, .ref m7, .int (iI um), .ref m8, .ref m9, .ref m10, .ref m11, .int (iI pd), .int (iI nd), .ref m12, .int (iI pal)]), (m2, jA E 192 rw0), (m3, jA E 4 (aI rn))]) → J E Y_X7_isTree Z 0 0 99 [(0, .ref m0), (1, .int (iI (r : Int))), (2, .int (iI (n2 : Int))), (3, .int (iI (rc : Int))), (4, .int (iI (w0))), (5, .int (iI (k : Int))), (6, .int (iI (z))), (7, .int (iI (e : Int)))] [] [(m0, jO 7 [.int (iI thr), .int (iI ask), .int (iI fnd), .ref m1, .ref m2, .ref m3, .int (iI n), .int (iI wd), .ref m4, .ref m5, .int (iI mm), .ref m6, .ref m7, .int (iI um), .ref m8, .ref m9, .ref m10, .ref m11, .int (iI pd), .int (iI nd), .ref m12, .int (iI pal)]), (m2, jA E 192 rw0), (m3, jA E 4 (aI rn))] := by
  intro d
  induction d with
  | zero => intros; omega
  | succ d ih =>
    intro d0 z e hd hd0 hz kk
    refine j_iload 101 dX7_isTree_99 rfl ?_
    refine j_iload_2 102 dX7_isTree_101 rfl ?_
    refine j_icmp_ge 131 105 dX7_isTree_102 (by first | with_reducible exact iI_rng _ | with_reducible exact bI_r _ | exact ⟨by omega, by omega⟩) (by first | with_reducible exact iI_rng _ | with_reducible exact bI_r _ | exact ⟨by omega, by omega⟩) (fun q102 => ?_) (fun q102 => ?_)
    · have e0 : d0 = 0 := by omega
      subst e0
      exact kk _
    · obtain ⟨d0, rfl⟩ : ∃ q, d0 = q + 1 := ⟨d0 - 1, by omega⟩
      refine j_iload 107 dX7_isTree_105 rfl ?_
      refine j_iconst 108 dX7_isTree_107 ?_
      refine j_icmp_eq 131 111 dX7_isTree_108 (by first | with_reducible exact iI_rng _ | with_reducible exact bI_r _ | exact ⟨by omega, by omega⟩) (by first | with_reducible exact iI_rng _ | with_reducible exact bI_r _ | exact ⟨by omega, by omega⟩) (fun q108 => ?_) (fun q108 => ?_)
      · subst q108
        rw [show wkF (fun k => (rw0 (48 * r + k)).toInt) (d0 + 1) (-1) = -1 from if_pos rfl] at kk
        exact kk _
      · obtain ⟨t, rfl⟩ : ∃ q : Nat, z = (q : Int) := ⟨z.toNat, by omega⟩
        have hpt := hp t (by omega)
        rw [show wkF (fun k => (rw0 (48 * r + k)).toInt) (d0 + 1) (t : Int) = wkF (fun k => (rw0 (48 * r + k)).toInt) d0 ((fun k => (rw0 (48 * r + k)).toInt) t) from if_neg q108] at kk
        refine j_aload_0 112 dX7_isTree_111 rfl ?_
        refine j_get 115 0 gf_X7_13 dX7_isTree_112 rfl rfl ?_
        refine j_bipush 117 dX7_isTree_115 (by decide +kernel) ?_
        refine j_iload_1 118 dX7_isTree_117 rfl ?_
        refine j_imul 119 dX7_isTree_118 ?_
        refine j_iload 121 dX7_isTree_119 rfl ?_
        refine j_iadd 122 dX7_isTree_121 ?_
        refine j_ialdw 123 1 (48 * r + t) ((rw0 (48 * r + t)).toInt) dX7_isTree_122 rfl rfl (by omega) (by omega) (iI_x _).symm ?_
        refine j_istore 125 (lv' := [(0, _), (1, _), (2, _), (3, _), (4, _), (5, _), (6, _), (7, _)]) dX7_isTree_123 rfl ⟨rfl, rfl⟩ ?_
        refine j_iinc 128 (lv' := [(0, _), (1, _), (2, _), (3, _), (4, _), (5, _), (6, _), (7, _)]) dX7_isTree_125 rfl rfl ⟨rfl, rfl⟩ ?_
        refine j_goto 99 dX7_isTree_128 ?_
        exact ih d0 _ _ (by omega) (by omega) hpt kk

theorem wkF_in {p : Nat → Int} {n : Nat} (hp : inT p n) : ∀ (d : Nat) (z : Int), (z = -1 ∨ (0 ≤ z ∧ z < n)) → (wkF p d z = -1 ∨ (0 ≤ wkF p d z ∧ wkF p d z < n))
  | 0, _, h => h
  | d + 1, z, h => by
    unfold wkF
    split
    · exact Or.inl rfl
    · have h2 := hp z.toNat (by omega)
      exact wkF_in hp d _ h2

set_option maxRecDepth 100000 in
set_option maxHeartbeats 4000000 in
theorem lp7_isTree2 (E : jD) (fnd : Int) (ask : Int) (wd : Int) (n : Int) (mm : Int) (um : Int) (nd : Int) (m0 : Nat) (m1 : Nat) (m2 : Nat) (m3 : Nat) (m4 : Nat) (m5 : Nat) (m6 : Nat) (m7 : Nat) (m8 : Nat) (m9 : Nat) (m10 : Nat) (m11 : Nat) (m12 : Nat) (thr : Int) (pd : Int) (pal : Int) (rn : Nat → Int) (rw0 : Nat → Int32) (r n2 : Nat) (hr4 : r < 4) (hn2 : rn r = (n2 : Int)) (hn48 : n2 ≤ 48) (hp : inT (fun k => (rw0 (48 * r + k)).toInt) n2) (rc : Int) : ∀ (d : Nat) (k : Nat) (z6 : List (Nat × Value)), n2 - k < d → (k ≤ n2) → (z6 = [] ∨ ∃ x y, z6 = [(6, x), (7, y)]) → J E Y_X7_isTree (jZm E Y_X7_isTree (fun rr N0 => rr = some (.int (iI (toB (fun k => (rw0 (48 * r + k)).toInt) n2))) ∧ N0 = [(m0, jO 7 [.int (iI thr), .int (iI ask), .int (iI fnd), .ref m1, .ref m2, .ref m3, .int (iI n), .int (iI wd), .ref m4, .ref m5, .int (iI mm), .ref m6, .ref m7, .int (iI um), .ref m8, .ref m9, .ref m10, .ref m11, .int (iI pd), .int (iI nd), .ref m12, .int (iI pal)]), (m2, jA E 192 rw0), (m3, jA E 4 (aI rn))])) 0 0 81 ([(0, .ref m0), (1, .int (iI (r : Int))), (2, .int (iI (n2 : Int))), (3, .int (iI rc)), (4, .int (iI (bI (rcF (fun k => (rw0 (48 * r + k)).toInt) n2 = 1 ∧ ∀ j : Nat, j < k → srF (fun k => (rw0 (48 * r + k)).toInt) n2 j < n2)))), (5, .int (iI (k : Int)))] ++ z6) [] [(m0, jO 7 [.int (iI thr), .int (iI ask), .int (iI fnd), .ref m1, .ref m2, .ref m3, .int (iI n), .int (iI wd), .ref m4, .ref m5, .int (iI mm), .ref m6, .ref m7, .int (iI um), .ref m8, .ref m9, .ref m10, .ref m11, .int (iI pd), .int (iI nd), .ref m12, .int (iI pal)]), (m2, jA E 192 rw0), (m3, jA E 4 (aI rn))] := by
  intro d
  induction d with
  | zero => intros; omega
  | succ d ih =>
    intro k z6 hd hk hz6
    refine j_take 6 ?_
    refine j_eqL (lv' := [(0, .ref m0), (1, .int (iI (r : Int))), (2, .int (iI (n2 : Int))), (3, .int (iI rc)), (4, .int (iI (bI (rcF (fun k => (rw0 (48 * r + k)).toInt) n2 = 1 ∧ ∀ j : Nat, j < k → srF (fun k => (rw0 (48 * r + k)).toInt) n2 j < n2)))), (5, .int (iI (k : Int)))]) (by rcases hz6 with rfl | ⟨x, y, rfl⟩ <;> rfl) ?_
    refine j_iload 83 dX7_isTree_81 rfl ?_
    refine j_iload_2 84 dX7_isTree_83 rfl ?_
    refine j_icmp_ge 150 87 dX7_isTree_84 (by first | with_reducible exact iI_rng _ | with_reducible exact bI_r _ | exact ⟨by omega, by omega⟩) (by first | with_reducible exact iI_rng _ | with_reducible exact bI_r _ | exact ⟨by omega, by omega⟩) (fun q84 => ?_) (fun q84 => ?_)
    · have e0 : n2 = k := by omega
      subst e0
      refine j_iload 152 dX7_isTree_150 rfl ?_
      exact j_zret (bI_n _) dX7_isTree_152 rfl rfl ⟨congrArg (fun z => some (Value.int (iI z))) (by
        by_cases hh : rcF (fun k => (rw0 (48 * r + k)).toInt) n2 = 1 ∧ ∀ j, j < n2 → srF (fun k => (rw0 (48 * r + k)).toInt) n2 j < n2
        · rw [bI_t hh, toB_t ⟨hp, hh.1, hh.2⟩]
        · rw [bI_f hh, toB_f (fun z => hh z.2)]), rfl⟩
    · refine j_iload 89 dX7_isTree_87 rfl ?_
      refine j_bif_eq 150 92 dX7_isTree_89 (fun q89 => ?_) (fun q89 => ?_)
      · refine j_iload 152 dX7_isTree_150 rfl ?_
        exact j_zret (bI_n _) dX7_isTree_152 rfl rfl ⟨congrArg (fun z => some (Value.int (iI z))) (by rw [bI_f q89]; exact (toB_f (fun z => q89 ⟨z.2.1, fun j hj => z.2.2 j (by omega)⟩)).symm), rfl⟩
      · refine j_iload 94 dX7_isTree_92 rfl ?_
        refine j_istore 96 (lv' := [(0, _), (1, _), (2, _), (3, _), (4, _), (5, _), (6, _)]) dX7_isTree_94 rfl ⟨rfl, rfl⟩ ?_
        refine j_iconst 97 dX7_isTree_96 ?_
        refine j_istore 99 (lv' := [(0, _), (1, _), (2, _), (3, _), (4, _), (5, _), (6, _), (7, _)]) dX7_isTree_97 rfl ⟨rfl, rfl⟩ ?_
        refine lp7_isTree3 E fnd ask wd n mm um nd m0 m1 m2 m3 m4 m5 m6 m7 m8 m9 m10 m11 m12 thr pd pal rn rw0 r n2 hr4 hn2 hn48 hp _ rc _ k (n2 + 1) n2 (k : Int) 0 (by omega) (by omega) (by omega) (fun x => ?_)
        refine j_iload 133 dX7_isTree_131 rfl ?_
        refine j_iconst 134 dX7_isTree_133 ?_
        refine j_icmp_ne 141 137 dX7_isTree_134 (by have hwk := wkF_in hp n2 (k : Int) (by omega); exact ⟨by omega, by omega⟩) (by first | with_reducible exact iI_rng _ | with_reducible exact bI_r _ | exact ⟨by omega, by omega⟩) (fun q134 => ?_) (fun q134 => ?_)
        · have e1 : (0 : Int) = bI (rcF (fun k => (rw0 (48 * r + k)).toInt) n2 = 1 ∧ ∀ j : Nat, j < (k + 1) → srF (fun k => (rw0 (48 * r + k)).toInt) n2 j < n2) := (bI_f (fun z => q134 ((wkF_sr hp n2 k (by omega)).mpr (z.2 k (by omega))))).symm
          refine j_iconst 142 dX7_isTree_141 ?_
          refine j_top _ (congrArg iI e1) ?_
          refine j_istore 144 (lv' := [(0, _), (1, _), (2, _), (3, _), (4, _), (5, _), (6, _), (7, _)]) dX7_isTree_142 rfl ⟨rfl, rfl⟩ ?_
          refine j_iinc 147 (lv' := [(0, _), (1, _), (2, _), (3, _), (4, _), (5, _), (6, _), (7, _)]) dX7_isTree_144 rfl rfl ⟨rfl, rfl⟩ ?_
          refine j_goto 81 dX7_isTree_147 ?_
          exact ih (k + 1) [(6, _), (7, _)] (by omega) (by omega) (Or.inr ⟨_, _, rfl⟩)
        · have e1 : (1 : Int) = bI (rcF (fun k => (rw0 (48 * r + k)).toInt) n2 = 1 ∧ ∀ j : Nat, j < (k + 1) → srF (fun k => (rw0 (48 * r + k)).toInt) n2 j < n2) := (bI_t ⟨q89.1, fun j hj => by
            by_cases hjk : j = k
            · subst hjk; exact (wkF_sr hp n2 j (by omega)).mp q134
            · exact q89.2 j (by omega)⟩).symm
          refine j_iconst 138 dX7_isTree_137 ?_
          refine j_goto 142 dX7_isTree_138 ?_
          refine j_top _ (congrArg iI e1) ?_
          refine j_istore 144 (lv' := [(0, _), (1, _), (2, _), (3, _), (4, _), (5, _), (6, _), (7, _)]) dX7_isTree_142 rfl ⟨rfl, rfl⟩ ?_
          refine j_iinc 147 (lv' := [(0, _), (1, _), (2, _), (3, _), (4, _), (5, _), (6, _), (7, _)]) dX7_isTree_144 rfl rfl ⟨rfl, rfl⟩ ?_
          refine j_goto 81 dX7_isTree_147 ?_
          exact ih (k + 1) [(6, _), (7, _)] (by omega) (by omega) (Or.inr ⟨_, _, rfl⟩)

set_option maxRecDepth 100000 in
set_option maxHeartbeats 4000000 in
theorem lp7_isTree1 (E : jD) (fnd : Int) (ask : Int) (wd : Int) (n : Int) (mm : Int) (um : Int) (nd : Int) (m0 : Nat) (m1 : Nat) (m2 : Nat) (m3 : Nat) (m4 : Nat) (m5 : Nat) (m6 : Nat) (m7 : Nat) (m8 : Nat) (m9 : Nat) (m10 : Nat) (m11 : Nat) (m12 : Nat) (thr : Int) (pd : Int) (pal : Int) (rn : Nat → Int) (rw0 : Nat → Int32) (r n2 : Nat) (hr4 : r < 4) (hn2 : rn r = (n2 : Int)) (hn48 : n2 ≤ 48) : ∀ (d : Nat) (k : Nat) (z5 : List (Nat × Value)), n2 - k < d → (k ≤ n2) → (z5 = [] ∨ ∃ x, z5 = [(5, x)]) → (∀ j, j < k → (fun k => (rw0 (48 * r + k)).toInt) j = -1 ∨ (0 ≤ (fun k => (rw0 (48 * r + k)).toInt) j ∧ (fun k => (rw0 (48 * r + k)).toInt) j < n2)) → J E Y_X7_isTree (jZm E Y_X7_isTree (fun rr N0 => rr = some (.int (iI (toB (fun k => (rw0 (48 * r + k)).toInt) n2))) ∧ N0 = [(m0, jO 7 [.int (iI thr), .int (iI ask), .int (iI fnd), .ref m1, .ref m2, .ref m3, .int (iI n), .int (iI wd), .ref m4, .ref m5, .int (iI mm), .ref m6, .ref m7, .int (iI um), .ref m8, .ref m9, .ref m10, .ref m11, .int (iI pd), .int (iI nd), .ref m12, .int (iI pal)]), (m2, jA E 192 rw0), (m3, jA E 4 (aI rn))])) 0 0 12 ([(0, .ref m0), (1, .int (iI (r : Int))), (2, .int (iI (n2 : Int))), (3, .int (iI ((rcF (fun k => (rw0 (48 * r + k)).toInt) k : Nat) : Int))), (4, .int (iI (k : Int)))] ++ z5) [] [(m0, jO 7 [.int (iI thr), .int (iI ask), .int (iI fnd), .ref m1, .ref m2, .ref m3, .int (iI n), .int (iI wd), .ref m4, .ref m5, .int (iI mm), .ref m6, .ref m7, .int (iI um), .ref m8, .ref m9, .ref m10, .ref m11, .int (iI pd), .int (iI nd), .ref m12, .int (iI pal)]), (m2, jA E 192 rw0), (m3, jA E 4 (aI rn))] := by
  intro d
  induction d with
  | zero => intros; omega
  | succ d ih =>
    intro k z5 hd hk hz5 he
    have hrc := rcF_le (fun k => (rw0 (48 * r + k)).toInt) k
    refine j_take 5 ?_
    refine j_eqL (lv' := [(0, .ref m0), (1, .int (iI (r : Int))), (2, .int (iI (n2 : Int))), (3, .int (iI ((rcF (fun k => (rw0 (48 * r + k)).toInt) k : Nat) : Int))), (4, .int (iI (k : Int)))]) (by rcases hz5 with rfl | ⟨x, rfl⟩ <;> rfl) ?_
    refine j_iload 14 dX7_isTree_12 rfl ?_
    refine j_iload_2 15 dX7_isTree_14 rfl ?_
    refine j_icmp_ge 66 18 dX7_isTree_15 (by first | with_reducible exact iI_rng _ | with_reducible exact bI_r _ | exact ⟨by omega, by omega⟩) (by first | with_reducible exact iI_rng _ | with_reducible exact bI_r _ | exact ⟨by omega, by omega⟩) (fun q15 => ?_) (fun q15 => ?_)
    · have e0 : n2 = k := by omega
      subst e0
      refine j_iload_3 67 dX7_isTree_66 rfl ?_
      refine j_iconst 68 dX7_isTree_67 ?_
      refine j_icmp_ne 75 71 dX7_isTree_68 (by first | with_reducible exact iI_rng _ | with_reducible exact bI_r _ | exact ⟨by omega, by omega⟩) (by first | with_reducible exact iI_rng _ | with_reducible exact bI_r _ | exact ⟨by omega, by omega⟩) (fun q68 => ?_) (fun q68 => ?_)
      · have e1 : (0 : Int) = bI (rcF (fun k => (rw0 (48 * r + k)).toInt) n2 = 1 ∧ ∀ j : Nat, j < (0 : Nat) → srF (fun k => (rw0 (48 * r + k)).toInt) n2 j < n2) := (bI_f (fun z => q68 (by rw [z.1]; rfl))).symm
        refine j_iconst 76 dX7_isTree_75 ?_
        refine j_top _ (congrArg iI e1) ?_
        refine j_istore 78 (lv' := [(0, _), (1, _), (2, _), (3, _), (4, _)]) dX7_isTree_76 rfl ⟨rfl, rfl⟩ ?_
        refine j_iconst 79 dX7_isTree_78 ?_
        refine j_istore 81 (lv' := [(0, _), (1, _), (2, _), (3, _), (4, _), (5, _)]) dX7_isTree_79 rfl ⟨rfl, rfl⟩ ?_
        exact lp7_isTree2 E fnd ask wd n mm um nd m0 m1 m2 m3 m4 m5 m6 m7 m8 m9 m10 m11 m12 thr pd pal rn rw0 r n2 hr4 hn2 hn48 he _ (n2 + 1) 0 [] (by omega) (by omega) (Or.inl rfl)
      · have e1 : (1 : Int) = bI (rcF (fun k => (rw0 (48 * r + k)).toInt) n2 = 1 ∧ ∀ j : Nat, j < (0 : Nat) → srF (fun k => (rw0 (48 * r + k)).toInt) n2 j < n2) := (bI_t ⟨by omega, fun j hj => by omega⟩).symm
        refine j_iconst 72 dX7_isTree_71 ?_
        refine j_goto 76 dX7_isTree_72 ?_
        refine j_top _ (congrArg iI e1) ?_
        refine j_istore 78 (lv' := [(0, _), (1, _), (2, _), (3, _), (4, _)]) dX7_isTree_76 rfl ⟨rfl, rfl⟩ ?_
        refine j_iconst 79 dX7_isTree_78 ?_
        refine j_istore 81 (lv' := [(0, _), (1, _), (2, _), (3, _), (4, _), (5, _)]) dX7_isTree_79 rfl ⟨rfl, rfl⟩ ?_
        exact lp7_isTree2 E fnd ask wd n mm um nd m0 m1 m2 m3 m4 m5 m6 m7 m8 m9 m10 m11 m12 thr pd pal rn rw0 r n2 hr4 hn2 hn48 he _ (n2 + 1) 0 [] (by omega) (by omega) (Or.inl rfl)
    · have hst : rcF (fun k => (rw0 (48 * r + k)).toInt) (k + 1) = rcF (fun k => (rw0 (48 * r + k)).toInt) k + (if (fun k => (rw0 (48 * r + k)).toInt) k = -1 then 1 else 0) := rfl
      refine j_aload_0 19 dX7_isTree_18 rfl ?_
      refine j_get 22 0 gf_X7_13 dX7_isTree_19 rfl rfl ?_
      refine j_bipush 24 dX7_isTree_22 (by decide +kernel) ?_
      refine j_iload_1 25 dX7_isTree_24 rfl ?_
      refine j_imul 26 dX7_isTree_25 ?_
      refine j_iload 28 dX7_isTree_26 rfl ?_
      refine j_iadd 29 dX7_isTree_28 ?_
      refine j_ialdw 30 1 (48 * r + k) ((rw0 (48 * r + k)).toInt) dX7_isTree_29 rfl rfl (by omega) (by omega) (iI_x _).symm ?_
      refine j_istore 32 (lv' := [(0, _), (1, _), (2, _), (3, _), (4, _), (5, _)]) dX7_isTree_30 rfl ⟨rfl, rfl⟩ ?_
      refine j_iload_3 33 dX7_isTree_32 rfl ?_
      refine j_iload 35 dX7_isTree_33 rfl ?_
      refine j_iconst 36 dX7_isTree_35 ?_
      refine j_icmp_ne 43 39 dX7_isTree_36 (by first | with_reducible exact iI_rng _ | with_reducible exact bI_r _ | exact ⟨by omega, by omega⟩) (by first | with_reducible exact iI_rng _ | with_reducible exact bI_r _ | exact ⟨by omega, by omega⟩) (fun q36 => ?_) (fun q36 => ?_)
      · rw [if_neg (show ¬ (rw0 (48 * r + k)).toInt = -1 by omega)] at hst
        refine j_iconst 44 dX7_isTree_43 ?_
        refine j_iadd 45 dX7_isTree_44 ?_
        refine j_istore_3 46 (lv' := [(0, _), (1, _), (2, _), (3, _), (4, _), (5, _)]) dX7_isTree_45 rfl ⟨rfl, rfl⟩ ?_
        refine j_iload 48 dX7_isTree_46 rfl ?_
        refine j_iconst 49 dX7_isTree_48 ?_
        refine j_iload_2 50 dX7_isTree_49 rfl ?_
        refine j_iconst 51 dX7_isTree_50 ?_
        refine j_isub 52 dX7_isTree_51 ?_
        refine j_callSi 55 Y_X7_in [] [_, _, _] (c_X7_in E _ _ _ (by first | with_reducible assumption | with_reducible exact iI_rng _ | exact ⟨by omega, by omega⟩) (by first | with_reducible assumption | with_reducible exact iI_rng _ | exact ⟨by omega, by omega⟩) (by first | with_reducible assumption | with_reducible exact iI_rng _ | exact ⟨by omega, by omega⟩)) m_X7_in wml_X7_56 dX7_isTree_52 rfl rfl rfl rfl rfl rfl rfl ?_
        refine j_bif_ne 60 58 dX7_isTree_55 (fun q55 => ?_) (fun q55 => ?_)
        · refine j_iinc 63 (lv' := [(0, _), (1, _), (2, _), (3, _), (4, _), (5, _)]) dX7_isTree_60 rfl rfl ⟨rfl, rfl⟩ ?_
          refine j_goto 12 dX7_isTree_63 ?_
          have h := ih (k + 1) [(5, .int (iI (rw0 (48 * r + k)).toInt))] (by omega) (by omega) (Or.inr ⟨_, rfl⟩) (fun j hj => by
            by_cases hjk : j = k
            · subst hjk; show (rw0 (48 * r + j)).toInt = -1 ∨ (0 ≤ (rw0 (48 * r + j)).toInt ∧ (rw0 (48 * r + j)).toInt < n2); omega
            · exact he j (by omega))
          rw [hst] at h
          exact h
        · refine j_iconst 59 dX7_isTree_58 ?_
          exact j_zret (by first | exact bI_n _ | decide +kernel) dX7_isTree_59 rfl rfl ⟨congrArg (fun z => some (Value.int (iI z))) ((toB_f (fun z => by have h1 : (rw0 (48 * r + k)).toInt = -1 ∨ (0 ≤ (rw0 (48 * r + k)).toInt ∧ (rw0 (48 * r + k)).toInt < n2) := z.1 k (by omega); omega)).symm), rfl⟩
      · rw [if_pos (show (rw0 (48 * r + k)).toInt = -1 by omega)] at hst
        refine j_iconst 40 dX7_isTree_39 ?_
        refine j_goto 44 dX7_isTree_40 ?_
        refine j_iadd 45 dX7_isTree_44 ?_
        refine j_istore_3 46 (lv' := [(0, _), (1, _), (2, _), (3, _), (4, _), (5, _)]) dX7_isTree_45 rfl ⟨rfl, rfl⟩ ?_
        refine j_iload 48 dX7_isTree_46 rfl ?_
        refine j_iconst 49 dX7_isTree_48 ?_
        refine j_iload_2 50 dX7_isTree_49 rfl ?_
        refine j_iconst 51 dX7_isTree_50 ?_
        refine j_isub 52 dX7_isTree_51 ?_
        refine j_callSi 55 Y_X7_in [] [_, _, _] (c_X7_in E _ _ _ (by first | with_reducible assumption | with_reducible exact iI_rng _ | exact ⟨by omega, by omega⟩) (by first | with_reducible assumption | with_reducible exact iI_rng _ | exact ⟨by omega, by omega⟩) (by first | with_reducible assumption | with_reducible exact iI_rng _ | exact ⟨by omega, by omega⟩)) m_X7_in wml_X7_56 dX7_isTree_52 rfl rfl rfl rfl rfl rfl rfl ?_
        refine j_bif_ne 60 58 dX7_isTree_55 (fun q55 => ?_) (fun q55 => ?_)
        · refine j_iinc 63 (lv' := [(0, _), (1, _), (2, _), (3, _), (4, _), (5, _)]) dX7_isTree_60 rfl rfl ⟨rfl, rfl⟩ ?_
          refine j_goto 12 dX7_isTree_63 ?_
          have h := ih (k + 1) [(5, .int (iI (rw0 (48 * r + k)).toInt))] (by omega) (by omega) (Or.inr ⟨_, rfl⟩) (fun j hj => by
            by_cases hjk : j = k
            · subst hjk; show (rw0 (48 * r + j)).toInt = -1 ∨ (0 ≤ (rw0 (48 * r + j)).toInt ∧ (rw0 (48 * r + j)).toInt < n2); omega
            · exact he j (by omega))
          rw [hst] at h
          exact h
        · refine j_iconst 59 dX7_isTree_58 ?_
          exact j_zret (by first | exact bI_n _ | decide +kernel) dX7_isTree_59 rfl rfl ⟨congrArg (fun z => some (Value.int (iI z))) ((toB_f (fun z => by have h1 : (rw0 (48 * r + k)).toInt = -1 ∨ (0 ≤ (rw0 (48 * r + k)).toInt ∧ (rw0 (48 * r + k)).toInt < n2) := z.1 k (by omega); omega)).symm), rfl⟩

set_option maxRecDepth 100000 in
set_option maxHeartbeats 4000000 in
theorem c_X7_isTree (E : jD) (fnd : Int) (ask : Int) (wd : Int) (n : Int) (mm : Int) (um : Int) (nd : Int) (m0 : Nat) (m1 : Nat) (m2 : Nat) (m3 : Nat) (m4 : Nat) (m5 : Nat) (m6 : Nat) (m7 : Nat) (m8 : Nat) (m9 : Nat) (m10 : Nat) (m11 : Nat) (m12 : Nat) (thr : Int) (pd : Int) (pal : Int) (rn : Nat → Int) (rw0 : Nat → Int32) (r n2 : Nat) (hr4 : r < 4) (hn2 : rn r = (n2 : Int)) (hn48 : n2 ≤ 48) : MC E Y_X7_isTree [.ref m0, .int (iI (r : Int))] [(m0, jO 7 [.int (iI thr), .int (iI ask), .int (iI fnd), .ref m1, .ref m2, .ref m3, .int (iI n), .int (iI wd), .ref m4, .ref m5, .int (iI mm), .ref m6, .ref m7, .int (iI um), .ref m8, .ref m9, .ref m10, .ref m11, .int (iI pd), .int (iI nd), .ref m12, .int (iI pal)]), (m2, jA E 192 rw0), (m3, jA E 4 (aI rn))] (fun rr N0 => rr = some (.int (iI (toB (fun k => (rw0 (48 * r + k)).toInt) n2))) ∧ N0 = [(m0, jO 7 [.int (iI thr), .int (iI ask), .int (iI fnd), .ref m1, .ref m2, .ref m3, .int (iI n), .int (iI wd), .ref m4, .ref m5, .int (iI mm), .ref m6, .ref m7, .int (iI um), .ref m8, .ref m9, .ref m10, .ref m11, .int (iI pd), .int (iI nd), .ref m12, .int (iI pal)]), (m2, jA E 192 rw0), (m3, jA E 4 (aI rn))]) := by
  refine MC.of (by decide) rfl rfl ?_
  refine j_aload_0 1 dX7_isTree_0 rfl ?_
  refine j_get 4 0 gf_X7_16 dX7_isTree_1 rfl rfl ?_
  refine j_iload_1 5 dX7_isTree_4 rfl ?_
  refine j_ialdw 6 2 _ ((n2 : Int)) dX7_isTree_5 rfl rfl rfl (by omega) (by show iI (rn r) = _; rw [hn2]) ?_
  refine j_istore_2 7 (lv' := [(0, _), (1, _), (2, _)]) dX7_isTree_6 rfl ⟨rfl, rfl⟩ ?_
  refine j_iconst 8 dX7_isTree_7 ?_
  refine j_istore_3 9 (lv' := [(0, _), (1, _), (2, _), (3, _)]) dX7_isTree_8 rfl ⟨rfl, rfl⟩ ?_
  refine j_iconst 10 dX7_isTree_9 ?_
  refine j_istore 12 (lv' := [(0, _), (1, _), (2, _), (3, _), (4, _)]) dX7_isTree_10 rfl ⟨rfl, rfl⟩ ?_
  exact lp7_isTree1 E fnd ask wd n mm um nd m0 m1 m2 m3 m4 m5 m6 m7 m8 m9 m10 m11 m12 thr pd pal rn rw0 r n2 hr4 hn2 hn48 (n2 + 1) 0 [] (by omega) (by omega) (Or.inl rfl) (fun j hj => by omega)

set_option maxRecDepth 100000 in
set_option maxHeartbeats 4000000 in
theorem lp7_rowsThere (E : jD) (fnd : Int) (ask : Int) (wd : Int) (n : Int) (mm : Int) (um : Int) (nd : Int) (m0 : Nat) (m1 : Nat) (m2 : Nat) (m3 : Nat) (m4 : Nat) (m5 : Nat) (m6 : Nat) (m7 : Nat) (m8 : Nat) (m9 : Nat) (m10 : Nat) (m11 : Nat) (m12 : Nat) (thr : Int) (pd : Int) (pal : Int) (rn : Nat → Int) (hnr : ∀ r, r < 4 → -1 ≤ rn r ∧ rn r ≤ 48) : ∀ (d : Nat) (k : Nat), 4 - k < d → (k ≤ 4) → J E Y_X7_rowsThere (jZm E Y_X7_rowsThere (fun rr N0 => rr = some (.int (iI ((rwF rn 4 : Nat)))) ∧ N0 = [(m0, jO 7 [.int (iI thr), .int (iI ask), .int (iI fnd), .ref m1, .ref m2, .ref m3, .int (iI n), .int (iI wd), .ref m4, .ref m5, .int (iI mm), .ref m6, .ref m7, .int (iI um), .ref m8, .ref m9, .ref m10, .ref m11, .int (iI pd), .int (iI nd), .ref m12, .int (iI pal)]), (m3, jA E 4 (aI rn))])) 0 0 4 [(0, .ref m0), (1, .int (iI ((rwF rn k : Nat) : Int))), (2, .int (iI (k : Int)))] [] [(m0, jO 7 [.int (iI thr), .int (iI ask), .int (iI fnd), .ref m1, .ref m2, .ref m3, .int (iI n), .int (iI wd), .ref m4, .ref m5, .int (iI mm), .ref m6, .ref m7, .int (iI um), .ref m8, .ref m9, .ref m10, .ref m11, .int (iI pd), .int (iI nd), .ref m12, .int (iI pal)]), (m3, jA E 4 (aI rn))] := by
  intro d
  induction d with
  | zero => intros; omega
  | succ d ih =>
    intro k hd hk
    have hrl := rwF_le rn k
    refine j_iload_2 5 dX7_rowsThere_4 rfl ?_
    refine j_iconst 6 dX7_rowsThere_5 ?_
    refine j_icmp_ge 32 9 dX7_rowsThere_6 (by first | with_reducible exact iI_rng _ | with_reducible exact bI_r _ | exact ⟨by omega, by omega⟩) (by first | with_reducible exact iI_rng _ | with_reducible exact bI_r _ | exact ⟨by omega, by omega⟩) (fun q6 => ?_) (fun q6 => ?_)
    · have e0 : k = 4 := by omega
      subst e0
      refine j_iload_1 33 dX7_rowsThere_32 rfl ?_
      exact j_iret dX7_rowsThere_33 rfl rfl ⟨rfl, rfl⟩
    · have hk4 := hnr k (by omega)
      have hst : rwF rn (k + 1) = rwF rn k + (if rn k < 0 then 0 else 1) := rfl
      refine j_iload_1 10 dX7_rowsThere_9 rfl ?_
      refine j_aload_0 11 dX7_rowsThere_10 rfl ?_
      refine j_get 14 0 gf_X7_16 dX7_rowsThere_11 rfl rfl ?_
      refine j_iload_2 15 dX7_rowsThere_14 rfl ?_
      refine j_ialdw 16 1 _ (rn k) dX7_rowsThere_15 rfl rfl rfl (by omega) rfl ?_
      refine j_if_lt 23 19 dX7_rowsThere_16 (by first | with_reducible exact iI_rng _ | with_reducible exact bI_r _ | exact ⟨by omega, by omega⟩) (fun q16 => ?_) (fun q16 => ?_)
      · rw [if_pos q16] at hst
        refine j_iconst 24 dX7_rowsThere_23 ?_
        refine j_iadd 25 dX7_rowsThere_24 ?_
        refine j_istore_1 26 (lv' := [(0, _), (1, _), (2, _)]) dX7_rowsThere_25 rfl ⟨rfl, rfl⟩ ?_
        refine j_iinc 29 (lv' := [(0, _), (1, _), (2, _)]) dX7_rowsThere_26 rfl rfl ⟨rfl, rfl⟩ ?_
        refine j_goto 4 dX7_rowsThere_29 ?_
        have h := ih (k + 1) (by omega) (by omega)
        rw [hst] at h
        exact h
      · rw [if_neg q16] at hst
        refine j_iconst 20 dX7_rowsThere_19 ?_
        refine j_goto 24 dX7_rowsThere_20 ?_
        refine j_iadd 25 dX7_rowsThere_24 ?_
        refine j_istore_1 26 (lv' := [(0, _), (1, _), (2, _)]) dX7_rowsThere_25 rfl ⟨rfl, rfl⟩ ?_
        refine j_iinc 29 (lv' := [(0, _), (1, _), (2, _)]) dX7_rowsThere_26 rfl rfl ⟨rfl, rfl⟩ ?_
        refine j_goto 4 dX7_rowsThere_29 ?_
        have h := ih (k + 1) (by omega) (by omega)
        rw [hst] at h
        exact h

set_option maxRecDepth 100000 in
set_option maxHeartbeats 4000000 in
theorem c_X7_rowsThere (E : jD) (fnd : Int) (ask : Int) (wd : Int) (n : Int) (mm : Int) (um : Int) (nd : Int) (m0 : Nat) (m1 : Nat) (m2 : Nat) (m3 : Nat) (m4 : Nat) (m5 : Nat) (m6 : Nat) (m7 : Nat) (m8 : Nat) (m9 : Nat) (m10 : Nat) (m11 : Nat) (m12 : Nat) (thr : Int) (pd : Int) (pal : Int) (rn : Nat → Int) (hnr : ∀ r, r < 4 → -1 ≤ rn r ∧ rn r ≤ 48) : MC E Y_X7_rowsThere [.ref m0] [(m0, jO 7 [.int (iI thr), .int (iI ask), .int (iI fnd), .ref m1, .ref m2, .ref m3, .int (iI n), .int (iI wd), .ref m4, .ref m5, .int (iI mm), .ref m6, .ref m7, .int (iI um), .ref m8, .ref m9, .ref m10, .ref m11, .int (iI pd), .int (iI nd), .ref m12, .int (iI pal)]), (m3, jA E 4 (aI rn))] (fun rr N0 => rr = some (.int (iI ((rwF rn 4 : Nat)))) ∧ N0 = [(m0, jO 7 [.int (iI thr), .int (iI ask), .int (iI fnd), .ref m1, .ref m2, .ref m3, .int (iI n), .int (iI wd), .ref m4, .ref m5, .int (iI mm), .ref m6, .ref m7, .int (iI um), .ref m8, .ref m9, .ref m10, .ref m11, .int (iI pd), .int (iI nd), .ref m12, .int (iI pal)]), (m3, jA E 4 (aI rn))]) := by
  refine MC.of (by decide) rfl rfl ?_
  refine j_iconst 1 dX7_rowsThere_0 ?_
  refine j_istore_1 2 (lv' := [(0, _), (1, _)]) dX7_rowsThere_1 rfl ⟨rfl, rfl⟩ ?_
  refine j_iconst 3 dX7_rowsThere_2 ?_
  refine j_istore_2 4 (lv' := [(0, _), (1, _), (2, _)]) dX7_rowsThere_3 rfl ⟨rfl, rfl⟩ ?_
  exact lp7_rowsThere E fnd ask wd n mm um nd m0 m1 m2 m3 m4 m5 m6 m7 m8 m9 m10 m11 m12 thr pd pal rn hnr 5 0 (by omega) (by omega)

theorem nB_48 {n wd : Nat} (hnw : (n = 0 ∧ wd = 0) ∨ (1 ≤ wd ∧ wd ≤ 6 ∧ n ≤ 48)) : nB n wd ≤ 48 := by
  rcases hnw with ⟨rfl, rfl⟩ | ⟨h1, _, h2⟩
  · exact Nat.zero_le _
  · exact Nat.le_trans (nB_le h1) h2

set_option maxRecDepth 100000 in
set_option maxHeartbeats 4000000 in
theorem lp7_levels (E : jD) (fnd : Int) (ask : Int) (mm : Int) (um : Int) (nd : Int) (m0 : Nat) (m1 : Nat) (m2 : Nat) (m3 : Nat) (m4 : Nat) (m5 : Nat) (m6 : Nat) (m7 : Nat) (m8 : Nat) (m9 : Nat) (m10 : Nat) (m11 : Nat) (m12 : Nat) (thr : Int) (pd : Int) (pal : Int) (n wd : Nat) (hnw : (n = 0 ∧ wd = 0) ∨ (1 ≤ wd ∧ wd ≤ 6 ∧ n ≤ 48)) : ∀ (d : Nat) (d0 : Nat) (r c : Nat), d0 < d → (1 ≤ r ∧ r ≤ 96) → (nB n wd < r * 2 ^ d0) → (c + lvF (nB n wd) d0 r = lvF (nB n wd) 7 1) → J E Y_X7_levels (jZm E Y_X7_levels (fun rr N0 => rr = some (.int (iI (((lvF (nB n wd) 7 1 : Nat) : Int)))) ∧ N0 = [(m0, jO 7 [.int (iI thr), .int (iI ask), .int (iI fnd), .ref m1, .ref m2, .ref m3, .int (iI (n : Int)), .int (iI (wd : Int)), .ref m4, .ref m5, .int (iI mm), .ref m6, .ref m7, .int (iI um), .ref m8, .ref m9, .ref m10, .ref m11, .int (iI pd), .int (iI nd), .ref m12, .int (iI pal)])])) 0 0 4 [(0, .ref m0), (1, .int (iI (c : Int))), (2, .int (iI (r : Int)))] [] [(m0, jO 7 [.int (iI thr), .int (iI ask), .int (iI fnd), .ref m1, .ref m2, .ref m3, .int (iI (n : Int)), .int (iI (wd : Int)), .ref m4, .ref m5, .int (iI mm), .ref m6, .ref m7, .int (iI um), .ref m8, .ref m9, .ref m10, .ref m11, .int (iI pd), .int (iI nd), .ref m12, .int (iI pal)])] := by
  intro d
  induction d with
  | zero => intros; omega
  | succ d ih =>
    intro d0 r c hd hr hb he
    have h48 := nB_48 hnw
    refine j_iload_2 5 dX7_levels_4 rfl ?_
    refine j_aload_0 6 dX7_levels_5 rfl ?_
    refine j_callVi 9 Y_X7_blocks [0] [] (c_X7_blocks E _ _ _ _ _ _ _ _ _ _ _ _ _ _ _ _ _ _ _ _ _ n wd hnw) m_X7_blocks wml_X7_99 dX7_levels_6 0 rfl rfl rfl rfl rfl rfl rfl rfl rfl rfl ?_
    refine j_icmp_gt 22 12 dX7_levels_9 (by first | with_reducible exact iI_rng _ | with_reducible exact bI_r _ | exact ⟨by omega, by omega⟩) (by first | with_reducible exact iI_rng _ | with_reducible exact bI_r _ | exact ⟨by omega, by omega⟩) (fun q9 => ?_) (fun q9 => ?_)
    · have e : lvF (nB n wd) d0 r = 0 := lvF_big (by omega) d0
      rw [e] at he
      refine j_iload_1 23 dX7_levels_22 rfl ?_
      exact j_iret dX7_levels_23 rfl rfl ⟨congrArg (fun z => some (Value.int (iI z))) (by rw [← he]; omega), rfl⟩
    · obtain ⟨d0, rfl⟩ : ∃ q, d0 = q + 1 := by
        cases d0 with
        | zero => rw [Nat.pow_zero, Nat.mul_one] at hb; omega
        | succ q => exact ⟨q, rfl⟩
      have e : lvF (nB n wd) (d0 + 1) r = lvF (nB n wd) d0 (2 * r) + 1 := if_neg (by omega)
      rw [e] at he
      refine j_iinc 15 (lv' := [(0, _), (1, _), (2, _)]) dX7_levels_12 rfl rfl ⟨rfl, rfl⟩ ?_
      refine j_iload_2 16 dX7_levels_15 rfl ?_
      refine j_iconst 17 dX7_levels_16 ?_
      refine j_imul 18 dX7_levels_17 ?_
      refine j_istore_2 19 (lv' := [(0, _), (1, _), (2, _)]) dX7_levels_18 rfl ⟨rfl, rfl⟩ ?_
      refine j_goto 4 dX7_levels_19 ?_
      refine j_eqL (lv' := [(0, .ref m0), (1, .int (iI ((c + 1 : Nat) : Int))), (2, .int (iI ((2 * r : Nat) : Int)))]) (by rw [show ((r : Nat) : Int) * 2 = ((2 * r : Nat) : Int) by omega]; rfl) ?_
      exact ih d0 (2 * r) _ (by omega) (by omega) (by rw [p2x]; exact hb) (by omega)

set_option maxRecDepth 100000 in
set_option maxHeartbeats 4000000 in
theorem c_X7_levels (E : jD) (fnd : Int) (ask : Int) (mm : Int) (um : Int) (nd : Int) (m0 : Nat) (m1 : Nat) (m2 : Nat) (m3 : Nat) (m4 : Nat) (m5 : Nat) (m6 : Nat) (m7 : Nat) (m8 : Nat) (m9 : Nat) (m10 : Nat) (m11 : Nat) (m12 : Nat) (thr : Int) (pd : Int) (pal : Int) (n wd : Nat) (hnw : (n = 0 ∧ wd = 0) ∨ (1 ≤ wd ∧ wd ≤ 6 ∧ n ≤ 48)) : MC E Y_X7_levels [.ref m0] [(m0, jO 7 [.int (iI thr), .int (iI ask), .int (iI fnd), .ref m1, .ref m2, .ref m3, .int (iI (n : Int)), .int (iI (wd : Int)), .ref m4, .ref m5, .int (iI mm), .ref m6, .ref m7, .int (iI um), .ref m8, .ref m9, .ref m10, .ref m11, .int (iI pd), .int (iI nd), .ref m12, .int (iI pal)])] (fun rr N0 => rr = some (.int (iI (((lvF (nB n wd) 7 1 : Nat) : Int)))) ∧ N0 = [(m0, jO 7 [.int (iI thr), .int (iI ask), .int (iI fnd), .ref m1, .ref m2, .ref m3, .int (iI (n : Int)), .int (iI (wd : Int)), .ref m4, .ref m5, .int (iI mm), .ref m6, .ref m7, .int (iI um), .ref m8, .ref m9, .ref m10, .ref m11, .int (iI pd), .int (iI nd), .ref m12, .int (iI pal)])]) := by
  refine MC.of (by decide) rfl rfl ?_
  refine j_iconst 1 dX7_levels_0 ?_
  refine j_istore_1 2 (lv' := [(0, _), (1, _)]) dX7_levels_1 rfl ⟨rfl, rfl⟩ ?_
  refine j_iconst 3 dX7_levels_2 ?_
  refine j_istore_2 4 (lv' := [(0, _), (1, _), (2, _)]) dX7_levels_3 rfl ⟨rfl, rfl⟩ ?_
  have h48 := nB_48 hnw
  exact lp7_levels E fnd ask mm um nd m0 m1 m2 m3 m4 m5 m6 m7 m8 m9 m10 m11 m12 thr pd pal n wd hnw 8 7 1 0 (by omega) (by omega) (by omega) (by omega)

set_option maxRecDepth 100000 in
set_option maxHeartbeats 4000000 in
theorem lp7_shapesNow_in (E : jD) (fnd : Int) (ask : Int) (mm : Int) (um : Int) (nd : Int) (m0 : Nat) (m1 : Nat) (m2 : Nat) (m3 : Nat) (m4 : Nat) (m5 : Nat) (m6 : Nat) (m7 : Nat) (m8 : Nat) (m9 : Nat) (m10 : Nat) (m11 : Nat) (m12 : Nat) (thr : Int) (pal : Int) (it : Nat → Int32) (n wd : Nat) (hw : 1 ≤ wd ∧ wd ≤ 6) (hn : n ≤ 48) (u b : Nat) (hb : b < nB n wd) (kk : ∀ pd pi, J E Y_X7_shapesNow (jZm E Y_X7_shapesNow (fun rr N0 => ∃ pd2 pi2, rr = some (.int (iI ((unF (fun b => ((shB (tI it) n wd b : Nat) : Int)) (nB n wd) : Nat) : Int))) ∧ N0 = [(m0, jO 7 [.int (iI thr), .int (iI ask), .int (iI fnd), .ref m1, .ref m2, .ref m3, .int (iI (n : Int)), .int (iI (wd : Int)), .ref m4, .ref m5, .int (iI mm), .ref m6, .ref m7, .int (iI um), .ref m8, .ref m9, .ref m10, .ref m11, .int (iI pd2), .int (iI nd), .ref m12, .int (iI pal)]), (m4, jA E 48 it), (m11, jA E 48 pi2)])) 0 0 58 [(0, .ref m0), (1, .int (iI (u : Int))), (2, .int (iI (b : Int))), (3, .int (iI ((fun b => ((shB (tI it) n wd b : Nat) : Int)) b))), (4, .int (iI (bI (∀ j, j < b → (fun b => ((shB (tI it) n wd b : Nat) : Int)) j ≠ (fun b => ((shB (tI it) n wd b : Nat) : Int)) b)))), (5, .int (iI (b : Int)))] [] [(m0, jO 7 [.int (iI thr), .int (iI ask), .int (iI fnd), .ref m1, .ref m2, .ref m3, .int (iI (n : Int)), .int (iI (wd : Int)), .ref m4, .ref m5, .int (iI mm), .ref m6, .ref m7, .int (iI um), .ref m8, .ref m9, .ref m10, .ref m11, .int (iI pd), .int (iI nd), .ref m12, .int (iI pal)]), (m4, jA E 48 it), (m11, jA E 48 pi)]) : ∀ (d : Nat) (k : Nat) (pd : Int) (pi : Nat → Int32), b - k < d → (k ≤ b) → J E Y_X7_shapesNow (jZm E Y_X7_shapesNow (fun rr N0 => ∃ pd2 pi2, rr = some (.int (iI ((unF (fun b => ((shB (tI it) n wd b : Nat) : Int)) (nB n wd) : Nat) : Int))) ∧ N0 = [(m0, jO 7 [.int (iI thr), .int (iI ask), .int (iI fnd), .ref m1, .ref m2, .ref m3, .int (iI (n : Int)), .int (iI (wd : Int)), .ref m4, .ref m5, .int (iI mm), .ref m6, .ref m7, .int (iI um), .ref m8, .ref m9, .ref m10, .ref m11, .int (iI pd2), .int (iI nd), .ref m12, .int (iI pal)]), (m4, jA E 48 it), (m11, jA E 48 pi2)])) 0 0 24 [(0, .ref m0), (1, .int (iI (u : Int))), (2, .int (iI (b : Int))), (3, .int (iI ((fun b => ((shB (tI it) n wd b : Nat) : Int)) b))), (4, .int (iI (bI (∀ j, j < k → (fun b => ((shB (tI it) n wd b : Nat) : Int)) j ≠ (fun b => ((shB (tI it) n wd b : Nat) : Int)) b)))), (5, .int (iI (k : Int)))] [] [(m0, jO 7 [.int (iI thr), .int (iI ask), .int (iI fnd), .ref m1, .ref m2, .ref m3, .int (iI (n : Int)), .int (iI (wd : Int)), .ref m4, .ref m5, .int (iI mm), .ref m6, .ref m7, .int (iI um), .ref m8, .ref m9, .ref m10, .ref m11, .int (iI pd), .int (iI nd), .ref m12, .int (iI pal)]), (m4, jA E 48 it), (m11, jA E 48 pi)] := by
  intro d
  induction d with
  | zero => intros; omega
  | succ d ih =>
    intro k pd pi hd hk
    have hle := nB_le (n := n) hw.1
    refine j_iload 26 dX7_shapesNow_24 rfl ?_
    refine j_iload_2 27 dX7_shapesNow_26 rfl ?_
    refine j_icmp_ge 58 30 dX7_shapesNow_27 (by first | with_reducible exact iI_rng _ | with_reducible exact bI_r _ | exact ⟨by omega, by omega⟩) (by first | with_reducible exact iI_rng _ | with_reducible exact bI_r _ | exact ⟨by omega, by omega⟩) (fun q27 => ?_) (fun q27 => ?_)
    · have e0 : k = b := by omega
      subst e0
      exact kk _ _
    · have hki := nB_in hw.1 (show k < nB n wd by omega)
      have hs1 := shB_lt (tI it) n k hw.2
      have hs2 := shB_lt (tI it) n b hw.2
      refine j_iload 32 dX7_shapesNow_30 rfl ?_
      refine j_bif_eq 49 35 dX7_shapesNow_32 (fun q32 => ?_) (fun q32 => ?_)
      · have e1 : (0 : Int) = bI (∀ j, j < (k + 1) → (fun b => ((shB (tI it) n wd b : Nat) : Int)) j ≠ (fun b => ((shB (tI it) n wd b : Nat) : Int)) b) := (bI_f (fun z => q32 (fun j hj => z j (by omega)))).symm
        refine j_iconst 50 dX7_shapesNow_49 ?_
        refine j_top _ (congrArg iI e1) ?_
        refine j_istore 52 (lv' := [(0, _), (1, _), (2, _), (3, _), (4, _), (5, _)]) dX7_shapesNow_50 rfl ⟨rfl, rfl⟩ ?_
        refine j_iinc 55 (lv' := [(0, _), (1, _), (2, _), (3, _), (4, _), (5, _)]) dX7_shapesNow_52 rfl rfl ⟨rfl, rfl⟩ ?_
        refine j_goto 24 dX7_shapesNow_55 ?_
        exact ih (k + 1) _ _ (by omega) (by omega)
      · refine j_aload_0 36 dX7_shapesNow_35 rfl ?_
        refine j_iload 38 dX7_shapesNow_36 rfl ?_
        refine j_callV 41 Y_X7_shapeOfBlock [0, 1, 2] [_] (c_X7_shapeOfBlock E _ _ _ _ _ _ _ _ _ _ _ _ _ _ _ _ _ _ _ _ _ _ _ n wd k hw hn (by omega) (by omega)) m_X7_shapeOfBlock wml_X7_103 dX7_shapesNow_38 0 rfl rfl rfl rfl rfl rfl rfl rfl rfl (fun r N h => by obtain ⟨_, _, rfl, rfl⟩ := h; rfl) (fun r N h => ?_)
        obtain ⟨pd2, pi2, rfl, rfl⟩ := h
        refine j_eqM (M' := [(m0, jO 7 [.int (iI thr), .int (iI ask), .int (iI fnd), .ref m1, .ref m2, .ref m3, .int (iI (n : Int)), .int (iI (wd : Int)), .ref m4, .ref m5, .int (iI mm), .ref m6, .ref m7, .int (iI um), .ref m8, .ref m9, .ref m10, .ref m11, .int (iI pd2), .int (iI nd), .ref m12, .int (iI pal)]), (m4, jA E 48 it), (m11, jA E 48 pi2)]) rfl ?_
        refine j_iload_3 42 dX7_shapesNow_41 rfl ?_
        refine j_icmp_eq 49 45 dX7_shapesNow_42 (jr_nat (by omega)) (jr_nat (by omega)) (fun q42 => ?_) (fun q42 => ?_)
        · have e1 : (0 : Int) = bI (∀ j, j < (k + 1) → (fun b => ((shB (tI it) n wd b : Nat) : Int)) j ≠ (fun b => ((shB (tI it) n wd b : Nat) : Int)) b) := (bI_f (fun z => z k (by omega) q42)).symm
          refine j_iconst 50 dX7_shapesNow_49 ?_
          refine j_top _ (congrArg iI e1) ?_
          refine j_istore 52 (lv' := [(0, _), (1, _), (2, _), (3, _), (4, _), (5, _)]) dX7_shapesNow_50 rfl ⟨rfl, rfl⟩ ?_
          refine j_iinc 55 (lv' := [(0, _), (1, _), (2, _), (3, _), (4, _), (5, _)]) dX7_shapesNow_52 rfl rfl ⟨rfl, rfl⟩ ?_
          refine j_goto 24 dX7_shapesNow_55 ?_
          exact ih (k + 1) _ _ (by omega) (by omega)
        · have e1 : (1 : Int) = bI (∀ j, j < (k + 1) → (fun b => ((shB (tI it) n wd b : Nat) : Int)) j ≠ (fun b => ((shB (tI it) n wd b : Nat) : Int)) b) := (bI_t (fun j hj => by
            by_cases hjk : j = k
            · subst hjk; exact q42
            · exact q32 j (by omega))).symm
          refine j_iconst 46 dX7_shapesNow_45 ?_
          refine j_goto 50 dX7_shapesNow_46 ?_
          refine j_top _ (congrArg iI e1) ?_
          refine j_istore 52 (lv' := [(0, _), (1, _), (2, _), (3, _), (4, _), (5, _)]) dX7_shapesNow_50 rfl ⟨rfl, rfl⟩ ?_
          refine j_iinc 55 (lv' := [(0, _), (1, _), (2, _), (3, _), (4, _), (5, _)]) dX7_shapesNow_52 rfl rfl ⟨rfl, rfl⟩ ?_
          refine j_goto 24 dX7_shapesNow_55 ?_
          exact ih (k + 1) _ _ (by omega) (by omega)

set_option maxRecDepth 100000 in
set_option maxHeartbeats 4000000 in
theorem lp7_shapesNow (E : jD) (fnd : Int) (ask : Int) (mm : Int) (um : Int) (nd : Int) (m0 : Nat) (m1 : Nat) (m2 : Nat) (m3 : Nat) (m4 : Nat) (m5 : Nat) (m6 : Nat) (m7 : Nat) (m8 : Nat) (m9 : Nat) (m10 : Nat) (m11 : Nat) (m12 : Nat) (thr : Int) (pal : Int) (it : Nat → Int32) (n wd : Nat) (hw : 1 ≤ wd ∧ wd ≤ 6) (hn : n ≤ 48) : ∀ (d : Nat) (b : Nat) (pd : Int) (pi : Nat → Int32), nB n wd - b < d → (b ≤ nB n wd) → J E Y_X7_shapesNow (jZm E Y_X7_shapesNow (fun rr N0 => ∃ pd2 pi2, rr = some (.int (iI ((unF (fun b => ((shB (tI it) n wd b : Nat) : Int)) (nB n wd) : Nat) : Int))) ∧ N0 = [(m0, jO 7 [.int (iI thr), .int (iI ask), .int (iI fnd), .ref m1, .ref m2, .ref m3, .int (iI (n : Int)), .int (iI (wd : Int)), .ref m4, .ref m5, .int (iI mm), .ref m6, .ref m7, .int (iI um), .ref m8, .ref m9, .ref m10, .ref m11, .int (iI pd2), .int (iI nd), .ref m12, .int (iI pal)]), (m4, jA E 48 it), (m11, jA E 48 pi2)])) 0 0 4 [(0, .ref m0), (1, .int (iI ((unF (fun b => ((shB (tI it) n wd b : Nat) : Int)) b : Nat) : Int))), (2, .int (iI (b : Int)))] [] [(m0, jO 7 [.int (iI thr), .int (iI ask), .int (iI fnd), .ref m1, .ref m2, .ref m3, .int (iI (n : Int)), .int (iI (wd : Int)), .ref m4, .ref m5, .int (iI mm), .ref m6, .ref m7, .int (iI um), .ref m8, .ref m9, .ref m10, .ref m11, .int (iI pd), .int (iI nd), .ref m12, .int (iI pal)]), (m4, jA E 48 it), (m11, jA E 48 pi)] := by
  intro d
  induction d with
  | zero => intros; omega
  | succ d ih =>
    intro b pd pi hd hb
    have hle := nB_le (n := n) hw.1
    refine j_iload_2 5 dX7_shapesNow_4 rfl ?_
    refine j_aload_0 6 dX7_shapesNow_5 rfl ?_
    refine j_callVi 9 Y_X7_blocks [0] [] (c_X7_blocks E _ _ _ _ _ _ _ _ _ _ _ _ _ _ _ _ _ _ _ _ _ n wd (by omega)) m_X7_blocks wml_X7_99 dX7_shapesNow_6 0 rfl rfl rfl rfl rfl rfl rfl rfl rfl rfl ?_
    refine j_icmp_ge 77 12 dX7_shapesNow_9 (by first | with_reducible exact iI_rng _ | with_reducible exact bI_r _ | exact ⟨by omega, by omega⟩) (by first | with_reducible exact iI_rng _ | with_reducible exact bI_r _ | exact ⟨by omega, by omega⟩) (fun q9 => ?_) (fun q9 => ?_)
    · have e0 : b = nB n wd := by omega
      subst e0
      refine j_iload_1 78 dX7_shapesNow_77 rfl ?_
      exact j_iret dX7_shapesNow_78 rfl rfl ⟨pd, pi, rfl, rfl⟩
    · have hbi := nB_in hw.1 (show b < nB n wd by omega)
      refine j_aload_0 13 dX7_shapesNow_12 rfl ?_
      refine j_iload_2 14 dX7_shapesNow_13 rfl ?_
      refine j_callV 17 Y_X7_shapeOfBlock [0, 1, 2] [_] (c_X7_shapeOfBlock E _ _ _ _ _ _ _ _ _ _ _ _ _ _ _ _ _ _ _ _ _ _ _ n wd b hw hn (by omega) (by omega)) m_X7_shapeOfBlock wml_X7_103 dX7_shapesNow_14 0 rfl rfl rfl rfl rfl rfl rfl rfl rfl (fun r N h => by obtain ⟨_, _, rfl, rfl⟩ := h; rfl) (fun r N h => ?_)
      obtain ⟨pd2, pi2, rfl, rfl⟩ := h
      refine j_eqM (M' := [(m0, jO 7 [.int (iI thr), .int (iI ask), .int (iI fnd), .ref m1, .ref m2, .ref m3, .int (iI (n : Int)), .int (iI (wd : Int)), .ref m4, .ref m5, .int (iI mm), .ref m6, .ref m7, .int (iI um), .ref m8, .ref m9, .ref m10, .ref m11, .int (iI pd2), .int (iI nd), .ref m12, .int (iI pal)]), (m4, jA E 48 it), (m11, jA E 48 pi2)]) rfl ?_
      refine j_istore_3 18 (lv' := [(0, _), (1, _), (2, _), (3, _)]) dX7_shapesNow_17 rfl ⟨rfl, rfl⟩ ?_
      refine j_iconst 19 dX7_shapesNow_18 ?_
      refine j_top _ (congrArg iI (bI_t (c := ∀ j : Nat, j < (0 : Nat) → (fun b => ((shB (tI it) n wd b : Nat) : Int)) j ≠ (fun b => ((shB (tI it) n wd b : Nat) : Int)) b) (fun j hj => by omega)).symm) ?_
      refine j_istore 21 (lv' := [(0, _), (1, _), (2, _), (3, _), (4, _)]) dX7_shapesNow_19 rfl ⟨rfl, rfl⟩ ?_
      refine j_iconst 22 dX7_shapesNow_21 ?_
      refine j_istore 24 (lv' := [(0, _), (1, _), (2, _), (3, _), (4, _), (5, _)]) dX7_shapesNow_22 rfl ⟨rfl, rfl⟩ ?_
      refine lp7_shapesNow_in E fnd ask mm um nd m0 m1 m2 m3 m4 m5 m6 m7 m8 m9 m10 m11 m12 thr pal it n wd hw hn (unF (fun b => ((shB (tI it) n wd b : Nat) : Int)) b) b (by omega) (fun pd3 pi3 => ?_) (b + 1) 0 pd2 pi2 (by omega) (by omega)
      have hst : unF (fun b => ((shB (tI it) n wd b : Nat) : Int)) (b + 1) = unF (fun b => ((shB (tI it) n wd b : Nat) : Int)) b + (if ∀ k, k < b → (fun b => ((shB (tI it) n wd b : Nat) : Int)) k ≠ (fun b => ((shB (tI it) n wd b : Nat) : Int)) b then 1 else 0) := rfl
      refine j_iload_1 59 dX7_shapesNow_58 rfl ?_
      refine j_iload 61 dX7_shapesNow_59 rfl ?_
      refine j_bif_eq 68 64 dX7_shapesNow_61 (fun q61 => ?_) (fun q61 => ?_)
      · rw [if_neg q61] at hst
        refine j_iconst 69 dX7_shapesNow_68 ?_
        refine j_iadd 70 dX7_shapesNow_69 ?_
        refine j_istore_1 71 (lv' := [(0, _), (1, _), (2, _), (3, _), (4, _), (5, _)]) dX7_shapesNow_70 rfl ⟨rfl, rfl⟩ ?_
        refine j_iinc 74 (lv' := [(0, _), (1, _), (2, _), (3, _), (4, _), (5, _)]) dX7_shapesNow_71 rfl rfl ⟨rfl, rfl⟩ ?_
        refine j_goto 4 dX7_shapesNow_74 ?_
        refine j_take 3 ?_
        have h := ih (b + 1) pd3 pi3 (by omega) (by omega)
        rw [hst] at h
        exact h
      · rw [if_pos q61] at hst
        refine j_iconst 65 dX7_shapesNow_64 ?_
        refine j_goto 69 dX7_shapesNow_65 ?_
        refine j_iadd 70 dX7_shapesNow_69 ?_
        refine j_istore_1 71 (lv' := [(0, _), (1, _), (2, _), (3, _), (4, _), (5, _)]) dX7_shapesNow_70 rfl ⟨rfl, rfl⟩ ?_
        refine j_iinc 74 (lv' := [(0, _), (1, _), (2, _), (3, _), (4, _), (5, _)]) dX7_shapesNow_71 rfl rfl ⟨rfl, rfl⟩ ?_
        refine j_goto 4 dX7_shapesNow_74 ?_
        refine j_take 3 ?_
        have h := ih (b + 1) pd3 pi3 (by omega) (by omega)
        rw [hst] at h
        exact h

set_option maxRecDepth 100000 in
set_option maxHeartbeats 4000000 in
theorem c_X7_shapesNow_y (E : jD) (fnd : Int) (ask : Int) (mm : Int) (um : Int) (nd : Int) (m0 : Nat) (m1 : Nat) (m2 : Nat) (m3 : Nat) (m4 : Nat) (m5 : Nat) (m6 : Nat) (m7 : Nat) (m8 : Nat) (m9 : Nat) (m10 : Nat) (m11 : Nat) (m12 : Nat) (thr : Int) (pd : Int) (pal : Int) (it : Nat → Int32) (pi : Nat → Int32) (n wd : Nat) (hw : 1 ≤ wd ∧ wd ≤ 6) (hn : n ≤ 48) : MC E Y_X7_shapesNow [.ref m0] [(m0, jO 7 [.int (iI thr), .int (iI ask), .int (iI fnd), .ref m1, .ref m2, .ref m3, .int (iI (n : Int)), .int (iI (wd : Int)), .ref m4, .ref m5, .int (iI mm), .ref m6, .ref m7, .int (iI um), .ref m8, .ref m9, .ref m10, .ref m11, .int (iI pd), .int (iI nd), .ref m12, .int (iI pal)]), (m4, jA E 48 it), (m11, jA E 48 pi)] (fun rr N0 => ∃ pd2 pi2, rr = some (.int (iI ((unF (fun b => ((shB (tI it) n wd b : Nat) : Int)) (nB n wd) : Nat) : Int))) ∧ N0 = [(m0, jO 7 [.int (iI thr), .int (iI ask), .int (iI fnd), .ref m1, .ref m2, .ref m3, .int (iI (n : Int)), .int (iI (wd : Int)), .ref m4, .ref m5, .int (iI mm), .ref m6, .ref m7, .int (iI um), .ref m8, .ref m9, .ref m10, .ref m11, .int (iI pd2), .int (iI nd), .ref m12, .int (iI pal)]), (m4, jA E 48 it), (m11, jA E 48 pi2)]) := by
  refine MC.of (by decide) rfl rfl ?_
  refine j_iconst 1 dX7_shapesNow_0 ?_
  refine j_istore_1 2 (lv' := [(0, _), (1, _)]) dX7_shapesNow_1 rfl ⟨rfl, rfl⟩ ?_
  refine j_iconst 3 dX7_shapesNow_2 ?_
  refine j_istore_2 4 (lv' := [(0, _), (1, _), (2, _)]) dX7_shapesNow_3 rfl ⟨rfl, rfl⟩ ?_
  exact lp7_shapesNow E fnd ask mm um nd m0 m1 m2 m3 m4 m5 m6 m7 m8 m9 m10 m11 m12 thr pal it n wd hw hn (nB n wd + 1) 0 pd pi (by omega) (by omega)

set_option maxRecDepth 100000 in
set_option maxHeartbeats 4000000 in
theorem c_X7_shapesNow_z (E : jD) (fnd : Int) (ask : Int) (mm : Int) (um : Int) (nd : Int) (m0 : Nat) (m1 : Nat) (m2 : Nat) (m3 : Nat) (m4 : Nat) (m5 : Nat) (m6 : Nat) (m7 : Nat) (m8 : Nat) (m9 : Nat) (m10 : Nat) (m11 : Nat) (m12 : Nat) (thr : Int) (pd : Int) (pal : Int) (it : Nat → Int32) (pi : Nat → Int32)  : MC E Y_X7_shapesNow [.ref m0] [(m0, jO 7 [.int (iI thr), .int (iI ask), .int (iI fnd), .ref m1, .ref m2, .ref m3, .int (iI 0), .int (iI 0), .ref m4, .ref m5, .int (iI mm), .ref m6, .ref m7, .int (iI um), .ref m8, .ref m9, .ref m10, .ref m11, .int (iI pd), .int (iI nd), .ref m12, .int (iI pal)]), (m4, jA E 48 it), (m11, jA E 48 pi)] (fun rr N0 => ∃ pd2 pi2, rr = some (.int (iI 0)) ∧ N0 = [(m0, jO 7 [.int (iI thr), .int (iI ask), .int (iI fnd), .ref m1, .ref m2, .ref m3, .int (iI 0), .int (iI 0), .ref m4, .ref m5, .int (iI mm), .ref m6, .ref m7, .int (iI um), .ref m8, .ref m9, .ref m10, .ref m11, .int (iI pd2), .int (iI nd), .ref m12, .int (iI pal)]), (m4, jA E 48 it), (m11, jA E 48 pi2)]) := by
  refine MC.of (by decide) rfl rfl ?_
  refine j_iconst 1 dX7_shapesNow_0 ?_
  refine j_istore_1 2 (lv' := [(0, _), (1, _)]) dX7_shapesNow_1 rfl ⟨rfl, rfl⟩ ?_
  refine j_iconst 3 dX7_shapesNow_2 ?_
  refine j_istore_2 4 (lv' := [(0, _), (1, _), (2, _)]) dX7_shapesNow_3 rfl ⟨rfl, rfl⟩ ?_
  refine j_iload_2 5 dX7_shapesNow_4 rfl ?_
  refine j_aload_0 6 dX7_shapesNow_5 rfl ?_
  refine j_callVi 9 Y_X7_blocks [0] [] (c_X7_blocks E _ _ _ _ _ _ _ _ _ _ _ _ _ _ _ _ _ _ _ _ _ 0 0 (Or.inl ⟨rfl, rfl⟩)) m_X7_blocks wml_X7_99 dX7_shapesNow_6 0 rfl rfl rfl rfl rfl rfl rfl rfl rfl rfl ?_
  refine j_top 0 rfl ?_
  refine j_icmp_ge 77 12 dX7_shapesNow_9 (by first | with_reducible exact iI_rng _ | with_reducible exact bI_r _ | exact ⟨by omega, by omega⟩) (by first | with_reducible exact iI_rng _ | with_reducible exact bI_r _ | exact ⟨by omega, by omega⟩) (fun q9 => ?_) (fun q9 => ?_)
  · refine j_iload_1 78 dX7_shapesNow_77 rfl ?_
    exact j_iret dX7_shapesNow_78 rfl rfl ⟨pd, pi, rfl, rfl⟩
  · omega

theorem c_X7_shapesNow (E : jD) (fnd : Int) (ask : Int) (mm : Int) (um : Int) (nd : Int) (m0 : Nat) (m1 : Nat) (m2 : Nat) (m3 : Nat) (m4 : Nat) (m5 : Nat) (m6 : Nat) (m7 : Nat) (m8 : Nat) (m9 : Nat) (m10 : Nat) (m11 : Nat) (m12 : Nat) (thr : Int) (pd : Int) (pal : Int) (it : Nat → Int32) (pi : Nat → Int32) (n wd : Nat) (hnw : (n = 0 ∧ wd = 0) ∨ (1 ≤ wd ∧ wd ≤ 6 ∧ n ≤ 48)) : MC E Y_X7_shapesNow [.ref m0] [(m0, jO 7 [.int (iI thr), .int (iI ask), .int (iI fnd), .ref m1, .ref m2, .ref m3, .int (iI (n : Int)), .int (iI (wd : Int)), .ref m4, .ref m5, .int (iI mm), .ref m6, .ref m7, .int (iI um), .ref m8, .ref m9, .ref m10, .ref m11, .int (iI pd), .int (iI nd), .ref m12, .int (iI pal)]), (m4, jA E 48 it), (m11, jA E 48 pi)] (fun rr N0 => ∃ pd2 pi2, rr = some (.int (iI ((unF (fun b => ((shB (tI it) n wd b : Nat) : Int)) (nB n wd) : Nat) : Int))) ∧ N0 = [(m0, jO 7 [.int (iI thr), .int (iI ask), .int (iI fnd), .ref m1, .ref m2, .ref m3, .int (iI (n : Int)), .int (iI (wd : Int)), .ref m4, .ref m5, .int (iI mm), .ref m6, .ref m7, .int (iI um), .ref m8, .ref m9, .ref m10, .ref m11, .int (iI pd2), .int (iI nd), .ref m12, .int (iI pal)]), (m4, jA E 48 it), (m11, jA E 48 pi2)]) := by
  rcases hnw with ⟨rfl, rfl⟩ | ⟨h1, h2, h3⟩
  · exact c_X7_shapesNow_z E fnd ask mm um nd m0 m1 m2 m3 m4 m5 m6 m7 m8 m9 m10 m11 m12 thr pd pal it pi
  · exact c_X7_shapesNow_y E fnd ask mm um nd m0 m1 m2 m3 m4 m5 m6 m7 m8 m9 m10 m11 m12 thr pd pal it pi n wd ⟨h1, h2⟩ h3

set_option maxRecDepth 100000 in
set_option maxHeartbeats 4000000 in
theorem lp7_bits (E : jD) (fnd : Int) (ask : Int) (mm : Int) (um : Int) (nd : Int) (m0 : Nat) (m1 : Nat) (m2 : Nat) (m3 : Nat) (m4 : Nat) (m5 : Nat) (m6 : Nat) (m7 : Nat) (m8 : Nat) (m9 : Nat) (m10 : Nat) (m11 : Nat) (m12 : Nat) (thr : Int) (pd : Int) (pal : Int) (it : Nat → Int32) (pi : Nat → Int32) (n wd : Nat) (hnw : (n = 0 ∧ wd = 0) ∨ (1 ≤ wd ∧ wd ≤ 6 ∧ n ≤ 48)) : ∀ (d : Nat) (d0 : Nat) (r : Nat) (c : Int), d0 < d → (1 ≤ r ∧ r ≤ 96) → (nB n wd < r * 2 ^ d0) → (c + enF (nB n wd) d0 r = enF (nB n wd) 7 1) → J E Y_X7_bits (jZm E Y_X7_bits (fun rr N0 => ∃ pd2 pi2, rr = some (.int (iI (biF (fun b => ((shB (tI it) n wd b : Nat) : Int)) wd (nB n wd)))) ∧ N0 = [(m0, jO 7 [.int (iI thr), .int (iI ask), .int (iI fnd), .ref m1, .ref m2, .ref m3, .int (iI (n : Int)), .int (iI (wd : Int)), .ref m4, .ref m5, .int (iI mm), .ref m6, .ref m7, .int (iI um), .ref m8, .ref m9, .ref m10, .ref m11, .int (iI pd2), .int (iI nd), .ref m12, .int (iI pal)]), (m4, jA E 48 it), (m11, jA E 48 pi2)])) 0 0 4 [(0, .ref m0), (1, .int (iI c)), (2, .int (iI (r : Int)))] [] [(m0, jO 7 [.int (iI thr), .int (iI ask), .int (iI fnd), .ref m1, .ref m2, .ref m3, .int (iI (n : Int)), .int (iI (wd : Int)), .ref m4, .ref m5, .int (iI mm), .ref m6, .ref m7, .int (iI um), .ref m8, .ref m9, .ref m10, .ref m11, .int (iI pd), .int (iI nd), .ref m12, .int (iI pal)]), (m4, jA E 48 it), (m11, jA E 48 pi)] := by
  intro d
  induction d with
  | zero => intros; omega
  | succ d ih =>
    intro d0 r c hd hr hb he
    have h48 := nB_48 hnw
    refine j_iload_2 5 dX7_bits_4 rfl ?_
    refine j_aload_0 6 dX7_bits_5 rfl ?_
    refine j_callVi 9 Y_X7_blocks [0] [] (c_X7_blocks E _ _ _ _ _ _ _ _ _ _ _ _ _ _ _ _ _ _ _ _ _ n wd hnw) m_X7_blocks wml_X7_99 dX7_bits_6 0 rfl rfl rfl rfl rfl rfl rfl rfl rfl rfl ?_
    refine j_icmp_gt 30 12 dX7_bits_9 (by first | with_reducible exact iI_rng _ | with_reducible exact bI_r _ | exact ⟨by omega, by omega⟩) (by first | with_reducible exact iI_rng _ | with_reducible exact bI_r _ | exact ⟨by omega, by omega⟩) (fun q9 => ?_) (fun q9 => ?_)
    · have e : enF (nB n wd) d0 r = 0 := enF_big (by omega) d0
      rw [e] at he
      have e3 : c = enF (nB n wd) 7 1 := by omega
      subst e3
      refine j_iconst 31 dX7_bits_30 ?_
      refine j_aload_0 32 dX7_bits_31 rfl ?_
      refine j_get 35 0 gf_X7_78 dX7_bits_32 rfl rfl ?_
      refine j_imul 36 dX7_bits_35 ?_
      refine j_aload_0 37 dX7_bits_36 rfl ?_
      refine j_callVi 40 Y_X7_blocks [0] [] (c_X7_blocks E _ _ _ _ _ _ _ _ _ _ _ _ _ _ _ _ _ _ _ _ _ n wd hnw) m_X7_blocks wml_X7_99 dX7_bits_37 0 rfl rfl rfl rfl rfl rfl rfl rfl rfl rfl ?_
      refine j_imul 41 dX7_bits_40 ?_
      refine j_bipush 43 dX7_bits_41 (by decide +kernel) ?_
      refine j_iload_1 44 dX7_bits_43 rfl ?_
      refine j_imul 45 dX7_bits_44 ?_
      refine j_iadd 46 dX7_bits_45 ?_
      refine j_iconst 47 dX7_bits_46 ?_
      refine j_aload_0 48 dX7_bits_47 rfl ?_
      refine j_get 51 0 gf_X7_78 dX7_bits_48 rfl rfl ?_
      refine j_imul 52 dX7_bits_51 ?_
      refine j_aload_0 53 dX7_bits_52 rfl ?_
      refine j_get 56 0 gf_X7_78 dX7_bits_53 rfl rfl ?_
      refine j_imul 57 dX7_bits_56 ?_
      refine j_aload_0 58 dX7_bits_57 rfl ?_
      refine j_callV 61 Y_X7_shapesNow [0, 1, 2] [] (c_X7_shapesNow E _ _ _ _ _ _ _ _ _ _ _ _ _ _ _ _ _ _ _ _ _ _ _ n wd hnw) m_X7_shapesNow wml_X7_168 dX7_bits_58 0 rfl rfl rfl rfl rfl rfl rfl rfl rfl (fun r N h => by obtain ⟨_, _, rfl, rfl⟩ := h; rfl) (fun r N h => ?_)
      obtain ⟨pd2, pi2, rfl, rfl⟩ := h
      refine j_imul 62 dX7_bits_61 ?_
      refine j_iadd 63 dX7_bits_62 ?_
      exact j_iret dX7_bits_63 rfl rfl ⟨pd2, pi2, rfl, rfl⟩
    · obtain ⟨d0, rfl⟩ : ∃ q, d0 = q + 1 := by
        cases d0 with
        | zero => rw [Nat.pow_zero, Nat.mul_one] at hb; omega
        | succ q => exact ⟨q, rfl⟩
      have e : enF (nB n wd) (d0 + 1) r = enF (nB n wd) d0 (2 * r) + ((nB n wd : Int) - r + 1) := if_neg (by omega)
      rw [e] at he
      refine j_iload_1 13 dX7_bits_12 rfl ?_
      refine j_aload_0 14 dX7_bits_13 rfl ?_
      refine j_callVi 17 Y_X7_blocks [0] [] (c_X7_blocks E _ _ _ _ _ _ _ _ _ _ _ _ _ _ _ _ _ _ _ _ _ n wd hnw) m_X7_blocks wml_X7_99 dX7_bits_14 0 rfl rfl rfl rfl rfl rfl rfl rfl rfl rfl ?_
      refine j_iload_2 18 dX7_bits_17 rfl ?_
      refine j_isub 19 dX7_bits_18 ?_
      refine j_iconst 20 dX7_bits_19 ?_
      refine j_iadd 21 dX7_bits_20 ?_
      refine j_iadd 22 dX7_bits_21 ?_
      refine j_istore_1 23 (lv' := [(0, _), (1, _), (2, _)]) dX7_bits_22 rfl ⟨rfl, rfl⟩ ?_
      refine j_iload_2 24 dX7_bits_23 rfl ?_
      refine j_iconst 25 dX7_bits_24 ?_
      refine j_imul 26 dX7_bits_25 ?_
      refine j_istore_2 27 (lv' := [(0, _), (1, _), (2, _)]) dX7_bits_26 rfl ⟨rfl, rfl⟩ ?_
      refine j_goto 4 dX7_bits_27 ?_
      refine j_eqL (lv' := [(0, .ref m0), (1, .int (iI (c + ((nB n wd : Int) - r + 1)))), (2, .int (iI ((2 * r : Nat) : Int)))]) (by rw [show ((r : Nat) : Int) * 2 = ((2 * r : Nat) : Int) by omega]) ?_
      exact ih d0 (2 * r) _ (by omega) (by omega) (by rw [p2x]; exact hb) (by omega)

set_option maxRecDepth 100000 in
set_option maxHeartbeats 4000000 in
theorem c_X7_bits (E : jD) (fnd : Int) (ask : Int) (mm : Int) (um : Int) (nd : Int) (m0 : Nat) (m1 : Nat) (m2 : Nat) (m3 : Nat) (m4 : Nat) (m5 : Nat) (m6 : Nat) (m7 : Nat) (m8 : Nat) (m9 : Nat) (m10 : Nat) (m11 : Nat) (m12 : Nat) (thr : Int) (pd : Int) (pal : Int) (it : Nat → Int32) (pi : Nat → Int32) (n wd : Nat) (hnw : (n = 0 ∧ wd = 0) ∨ (1 ≤ wd ∧ wd ≤ 6 ∧ n ≤ 48)) : MC E Y_X7_bits [.ref m0] [(m0, jO 7 [.int (iI thr), .int (iI ask), .int (iI fnd), .ref m1, .ref m2, .ref m3, .int (iI (n : Int)), .int (iI (wd : Int)), .ref m4, .ref m5, .int (iI mm), .ref m6, .ref m7, .int (iI um), .ref m8, .ref m9, .ref m10, .ref m11, .int (iI pd), .int (iI nd), .ref m12, .int (iI pal)]), (m4, jA E 48 it), (m11, jA E 48 pi)] (fun rr N0 => ∃ pd2 pi2, rr = some (.int (iI (biF (fun b => ((shB (tI it) n wd b : Nat) : Int)) wd (nB n wd)))) ∧ N0 = [(m0, jO 7 [.int (iI thr), .int (iI ask), .int (iI fnd), .ref m1, .ref m2, .ref m3, .int (iI (n : Int)), .int (iI (wd : Int)), .ref m4, .ref m5, .int (iI mm), .ref m6, .ref m7, .int (iI um), .ref m8, .ref m9, .ref m10, .ref m11, .int (iI pd2), .int (iI nd), .ref m12, .int (iI pal)]), (m4, jA E 48 it), (m11, jA E 48 pi2)]) := by
  refine MC.of (by decide) rfl rfl ?_
  refine j_iconst 1 dX7_bits_0 ?_
  refine j_istore_1 2 (lv' := [(0, _), (1, _)]) dX7_bits_1 rfl ⟨rfl, rfl⟩ ?_
  refine j_iconst 3 dX7_bits_2 ?_
  refine j_istore_2 4 (lv' := [(0, _), (1, _), (2, _)]) dX7_bits_3 rfl ⟨rfl, rfl⟩ ?_
  have h48 := nB_48 hnw
  exact lp7_bits E fnd ask mm um nd m0 m1 m2 m3 m4 m5 m6 m7 m8 m9 m10 m11 m12 thr pd pal it pi n wd hnw 8 7 1 0 (by omega) (by omega) (by omega) (by omega)
