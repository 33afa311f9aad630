set_option maxRecDepth 100000 in
set_option maxHeartbeats 4000000 in
theorem lp7_deepness (E : jD) (fnd : Int) (ask : Int) (wd : Int) (n : Int) (mm : Int) (um : Int) (m0 : Nat) (m1 : Nat) (m2 : Nat) (m3 : Nat) (m4 : Nat) (m5 : Nat) (m6 : Nat) (m7 : Nat) (m8 : Nat) (m9 : Nat) (m10 : Nat) (m11 : Nat) (m12 : Nat) (thr : Int) (pd : Int) (pal : Int) (ab : Nat → Int32) (nd : Nat) (p : Nat → Int) (hnd : nd ≤ 24) (hpk : ∀ k, k < nd → (ab k).toInt = p k) (hp : inT p nd) (hsr : ∀ k, k < nd → srF p nd k < nd) (u : Nat) (hu : u < nd) : ∀ (d : Nat) (s : Nat) (z : Int), srF p nd u - s < d → (s ≤ srF p nd u) → (z = p (upF p s u)) → J E Y_X7_deepness (jZm E Y_X7_deepness (fun rr N0 => rr = some (.int (iI ((srF p nd u : Nat)))) ∧ N0 = [(m0, jO 7 [.int (iI thr), .int (iI ask), .int (iI fnd), .ref m1, .ref m2, .ref m3, .int (iI n), .int (iI wd), .ref m4, .ref m5, .int (iI mm), .ref m6, .ref m7, .int (iI um), .ref m8, .ref m9, .ref m10, .ref m11, .int (iI pd), .int (iI (nd : Int)), .ref m12, .int (iI pal)]), (m12, jA E 24 ab)])) 0 0 9 [(0, .ref m0), (1, .int (iI (u : Int))), (2, .int (iI (s : Int))), (3, .int (iI z))] [] [(m0, jO 7 [.int (iI thr), .int (iI ask), .int (iI fnd), .ref m1, .ref m2, .ref m3, .int (iI n), .int (iI wd), .ref m4, .ref m5, .int (iI mm), .ref m6, .ref m7, .int (iI um), .ref m8, .ref m9, .ref m10, .ref m11, .int (iI pd), .int (iI (nd : Int)), .ref m12, .int (iI pal)]), (m12, jA E 24 ab)] := by
  intro d
  induction d with
  | zero => intros; omega
  | succ d ih =>
    intro s z hd hs hz
    obtain ⟨hu1, hu2⟩ := up_in hp nd u hu s hs
    have hpt := hp _ hu1
    have hsl := srF_le p nd u
    rw [← hz] at hpt
    refine j_iload_3 10 dX7_deepness_9 rfl ?_
    refine j_iconst 11 dX7_deepness_10 ?_
    refine j_icmp_eq 27 14 dX7_deepness_11 (by first | with_reducible exact iI_rng _ | with_reducible exact bI_r _ | exact ⟨by omega, by omega⟩) (by first | with_reducible exact iI_rng _ | with_reducible exact bI_r _ | exact ⟨by omega, by omega⟩) (fun q11 => ?_) (fun q11 => ?_)
    · have e : s = srF p nd u := by
        refine Nat.le_antisymm hs (Nat.le_of_not_lt (fun h => hu2 h ?_))
        rw [← hz]; exact q11
      refine j_iload_2 28 dX7_deepness_27 rfl ?_
      exact j_iret dX7_deepness_28 rfl rfl ⟨congrArg (fun z => some (Value.int (iI z))) (by rw [e]), rfl⟩
    · have hlt : s < srF p nd u := by
        refine Nat.lt_of_le_of_ne hs (fun h => q11 ?_)
        rw [hz, h]; exact up_root hp nd u hu (hsr u hu)
      obtain ⟨hu3, _⟩ := up_in hp nd u hu (s + 1) (by omega)
      have hz2 : z = ((upF p (s + 1) u : Nat) : Int) := by rw [upF_s]; omega
      refine j_iinc 17 (lv' := [(0, _), (1, _), (2, _), (3, _)]) dX7_deepness_14 rfl rfl ⟨rfl, rfl⟩ ?_
      refine j_aload_0 18 dX7_deepness_17 rfl ?_
      refine j_get 21 0 gf_X7_43 dX7_deepness_18 rfl rfl ?_
      refine j_iload_3 22 dX7_deepness_21 rfl ?_
      refine j_ialdw 23 1 (upF p (s + 1) u) (p (upF p (s + 1) u)) dX7_deepness_22 rfl rfl hz2 (by omega) (by rw [← iI_x (ab _), hpk _ hu3]) ?_
      refine j_istore_3 24 (lv' := [(0, _), (1, _), (2, _), (3, _)]) dX7_deepness_23 rfl ⟨rfl, rfl⟩ ?_
      refine j_goto 9 dX7_deepness_24 ?_
      exact ih (s + 1) _ (by omega) (by omega) rfl

set_option maxRecDepth 100000 in
set_option maxHeartbeats 4000000 in
theorem c_X7_deepness (E : jD) (fnd : Int) (ask : Int) (wd : Int) (n : Int) (mm : Int) (um : Int) (m0 : Nat) (m1 : Nat) (m2 : Nat) (m3 : Nat) (m4 : Nat) (m5 : Nat) (m6 : Nat) (m7 : Nat) (m8 : Nat) (m9 : Nat) (m10 : Nat) (m11 : Nat) (m12 : Nat) (thr : Int) (pd : Int) (pal : Int) (ab : Nat → Int32) (nd : Nat) (p : Nat → Int) (u : Nat) (hnd : nd ≤ 24) (hpk : ∀ k, k < nd → (ab k).toInt = p k) (hp : inT p nd) (hsr : ∀ k, k < nd → srF p nd k < nd) (hu : u < nd) : MC E Y_X7_deepness [.ref m0, .int (iI (u : Int))] [(m0, jO 7 [.int (iI thr), .int (iI ask), .int (iI fnd), .ref m1, .ref m2, .ref m3, .int (iI n), .int (iI wd), .ref m4, .ref m5, .int (iI mm), .ref m6, .ref m7, .int (iI um), .ref m8, .ref m9, .ref m10, .ref m11, .int (iI pd), .int (iI (nd : Int)), .ref m12, .int (iI pal)]), (m12, jA E 24 ab)] (fun rr N0 => rr = some (.int (iI ((srF p nd u : Nat)))) ∧ N0 = [(m0, jO 7 [.int (iI thr), .int (iI ask), .int (iI fnd), .ref m1, .ref m2, .ref m3, .int (iI n), .int (iI wd), .ref m4, .ref m5, .int (iI mm), .ref m6, .ref m7, .int (iI um), .ref m8, .ref m9, .ref m10, .ref m11, .int (iI pd), .int (iI (nd : Int)), .ref m12, .int (iI pal)]), (m12, jA E 24 ab)]) := by
  refine MC.of (by decide) rfl rfl ?_
  refine j_iconst 1 dX7_deepness_0 ?_
  refine j_istore_2 2 (lv' := [(0, _), (1, _), (2, _)]) dX7_deepness_1 rfl ⟨rfl, rfl⟩ ?_
  refine j_aload_0 3 dX7_deepness_2 rfl ?_
  refine j_get 6 0 gf_X7_43 dX7_deepness_3 rfl rfl ?_
  refine j_iload_1 7 dX7_deepness_6 rfl ?_
  refine j_ialdw 8 1 (u) (p u) dX7_deepness_7 rfl rfl rfl (by omega) (by rw [← iI_x (ab _), hpk _ hu]) ?_
  refine j_istore_3 9 (lv' := [(0, _), (1, _), (2, _), (3, _)]) dX7_deepness_8 rfl ⟨rfl, rfl⟩ ?_
  exact lp7_deepness E fnd ask wd n mm um m0 m1 m2 m3 m4 m5 m6 m7 m8 m9 m10 m11 m12 thr pd pal ab nd p hnd hpk hp hsr u hu (srF p nd u + 1) 0 _ (by omega) (by omega) rfl

set_option maxRecDepth 100000 in
set_option maxHeartbeats 4000000 in
theorem lp7_upTo (E : jD) (fnd : Int) (ask : Int) (wd : Int) (n : Int) (mm : Int) (um : Int) (m0 : Nat) (m1 : Nat) (m2 : Nat) (m3 : Nat) (m4 : Nat) (m5 : Nat) (m6 : Nat) (m7 : Nat) (m8 : Nat) (m9 : Nat) (m10 : Nat) (m11 : Nat) (m12 : Nat) (thr : Int) (pd : Int) (pal : Int) (ab : Nat → Int32) (nd : Nat) (p : Nat → Int) (hnd : nd ≤ 24) (hpk : ∀ k, k < nd → (ab k).toInt = p k) (hp : inT p nd) (hsr : ∀ k, k < nd → srF p nd k < nd) (u : Nat) (hu : u < nd) (dd : Nat) (hd24 : dd ≤ 48) : ∀ (d : Nat) (j : Nat), srF p nd u - j < d → (j ≤ srF p nd u - dd) → J E Y_X7_upTo (jZm E Y_X7_upTo (fun rr N0 => rr = some (.int (iI (((upF p (srF p nd u - dd) u : Nat) : Int)))) ∧ N0 = [(m0, jO 7 [.int (iI thr), .int (iI ask), .int (iI fnd), .ref m1, .ref m2, .ref m3, .int (iI n), .int (iI wd), .ref m4, .ref m5, .int (iI mm), .ref m6, .ref m7, .int (iI um), .ref m8, .ref m9, .ref m10, .ref m11, .int (iI pd), .int (iI (nd : Int)), .ref m12, .int (iI pal)]), (m12, jA E 24 ab)])) 0 0 9 [(0, .ref m0), (1, .int (iI (u : Int))), (2, .int (iI (dd : Int))), (3, .int (iI ((upF p j u : Nat) : Int))), (4, .int (iI ((srF p nd u : Int) - j)))] [] [(m0, jO 7 [.int (iI thr), .int (iI ask), .int (iI fnd), .ref m1, .ref m2, .ref m3, .int (iI n), .int (iI wd), .ref m4, .ref m5, .int (iI mm), .ref m6, .ref m7, .int (iI um), .ref m8, .ref m9, .ref m10, .ref m11, .int (iI pd), .int (iI (nd : Int)), .ref m12, .int (iI pal)]), (m12, jA E 24 ab)] := by
  intro d
  induction d with
  | zero => intros; omega
  | succ d ih =>
    intro j hd hj
    have hsl := srF_le p nd u
    refine j_iload 11 dX7_upTo_9 rfl ?_
    refine j_iload_2 12 dX7_upTo_11 rfl ?_
    refine j_icmp_le 28 15 dX7_upTo_12 (by first | with_reducible exact iI_rng _ | with_reducible exact bI_r _ | exact ⟨by omega, by omega⟩) (by first | with_reducible exact iI_rng _ | with_reducible exact bI_r _ | exact ⟨by omega, by omega⟩) (fun q12 => ?_) (fun q12 => ?_)
    · have e : j = srF p nd u - dd := by omega
      subst e
      refine j_iload_3 29 dX7_upTo_28 rfl ?_
      exact j_iret dX7_upTo_29 rfl rfl ⟨rfl, rfl⟩
    · obtain ⟨hu1, hu2⟩ := up_in hp nd u hu j (by omega)
      have hu3 := hu2 (by omega)
      have hu4 := hp _ hu1
      have hft := hpk _ hu1
      refine j_aload_0 16 dX7_upTo_15 rfl ?_
      refine j_get 19 0 gf_X7_43 dX7_upTo_16 rfl rfl ?_
      refine j_iload_3 20 dX7_upTo_19 rfl ?_
      refine j_ialdw 21 1 _ (((upF p (j + 1) u : Nat) : Int)) dX7_upTo_20 rfl rfl rfl (by omega) (by rw [← iI_x (ab _), hft, upF_s]; exact congrArg iI (by omega)) ?_
      refine j_istore_3 22 (lv' := [(0, _), (1, _), (2, _), (3, _), (4, _)]) dX7_upTo_21 rfl ⟨rfl, rfl⟩ ?_
      refine j_iinc 25 (lv' := [(0, _), (1, _), (2, _), (3, _), (4, _)]) dX7_upTo_22 rfl rfl ⟨rfl, rfl⟩ ?_
      refine j_goto 9 dX7_upTo_25 ?_
      refine j_eqL (lv' := [(0, .ref m0), (1, .int (iI (u : Int))), (2, .int (iI (dd : Int))), (3, .int (iI ((upF p (j + 1) u : Nat) : Int))), (4, .int (iI ((srF p nd u : Int) - ((j + 1 : Nat) : Int))))]) (by rw [show (srF p nd u : Int) - j + -1 = (srF p nd u : Int) - ((j + 1 : Nat) : Int) by omega]) ?_
      exact ih (j + 1) (by omega) (by omega)

set_option maxRecDepth 100000 in
set_option maxHeartbeats 4000000 in
theorem c_X7_upTo (E : jD) (fnd : Int) (ask : Int) (wd : Int) (n : Int) (mm : Int) (um : Int) (m0 : Nat) (m1 : Nat) (m2 : Nat) (m3 : Nat) (m4 : Nat) (m5 : Nat) (m6 : Nat) (m7 : Nat) (m8 : Nat) (m9 : Nat) (m10 : Nat) (m11 : Nat) (m12 : Nat) (thr : Int) (pd : Int) (pal : Int) (ab : Nat → Int32) (nd : Nat) (p : Nat → Int) (u dd : Nat) (hnd : nd ≤ 24) (hpk : ∀ k, k < nd → (ab k).toInt = p k) (hp : inT p nd) (hsr : ∀ k, k < nd → srF p nd k < nd) (hu : u < nd) (hd24 : dd ≤ 48) : MC E Y_X7_upTo [.ref m0, .int (iI (u : Int)), .int (iI (dd : Int))] [(m0, jO 7 [.int (iI thr), .int (iI ask), .int (iI fnd), .ref m1, .ref m2, .ref m3, .int (iI n), .int (iI wd), .ref m4, .ref m5, .int (iI mm), .ref m6, .ref m7, .int (iI um), .ref m8, .ref m9, .ref m10, .ref m11, .int (iI pd), .int (iI (nd : Int)), .ref m12, .int (iI pal)]), (m12, jA E 24 ab)] (fun rr N0 => rr = some (.int (iI (((upF p (srF p nd u - dd) u : Nat) : Int)))) ∧ N0 = [(m0, jO 7 [.int (iI thr), .int (iI ask), .int (iI fnd), .ref m1, .ref m2, .ref m3, .int (iI n), .int (iI wd), .ref m4, .ref m5, .int (iI mm), .ref m6, .ref m7, .int (iI um), .ref m8, .ref m9, .ref m10, .ref m11, .int (iI pd), .int (iI (nd : Int)), .ref m12, .int (iI pal)]), (m12, jA E 24 ab)]) := by
  refine MC.of (by decide) rfl rfl ?_
  refine j_iload_1 1 dX7_upTo_0 rfl ?_
  refine j_istore_3 2 (lv' := [(0, _), (1, _), (2, _), (3, _)]) dX7_upTo_1 rfl ⟨rfl, rfl⟩ ?_
  refine j_aload_0 3 dX7_upTo_2 rfl ?_
  refine j_iload_1 4 dX7_upTo_3 rfl ?_
  refine j_callVi 7 Y_X7_deepness [0, 1] [_] (c_X7_deepness E _ _ _ _ _ _ _ _ _ _ _ _ _ _ _ _ _ _ _ _ _ _ _ _ p _ hnd hpk hp hsr (by omega)) m_X7_deepness wml_X7_143 dX7_upTo_4 0 rfl rfl rfl rfl rfl rfl rfl rfl rfl rfl ?_
  refine j_istore 9 (lv' := [(0, _), (1, _), (2, _), (3, _), (4, _)]) dX7_upTo_7 rfl ⟨rfl, rfl⟩ ?_
  refine j_eqL (lv' := [(0, .ref m0), (1, .int (iI (u : Int))), (2, .int (iI (dd : Int))), (3, .int (iI ((upF p 0 u : Nat) : Int))), (4, .int (iI ((srF p nd u : Int) - ((0 : Nat) : Int))))]) (by rw [show (srF p nd u : Int) - ((0 : Nat) : Int) = (srF p nd u : Int) by omega]; rfl) ?_
  exact lp7_upTo E fnd ask wd n mm um m0 m1 m2 m3 m4 m5 m6 m7 m8 m9 m10 m11 m12 thr pd pal ab nd p hnd hpk hp hsr u hu dd hd24 (srF p nd u + 1) 0 (by omega) (by omega)

set_option maxRecDepth 100000 in
set_option maxHeartbeats 4000000 in
theorem c_X7_isBelow (E : jD) (fnd : Int) (ask : Int) (wd : Int) (n : Int) (mm : Int) (um : Int) (m0 : Nat) (m1 : Nat) (m2 : Nat) (m3 : Nat) (m4 : Nat) (m5 : Nat) (m6 : Nat) (m7 : Nat) (m8 : Nat) (m9 : Nat) (m10 : Nat) (m11 : Nat) (m12 : Nat) (thr : Int) (pd : Int) (pal : Int) (ab : Nat → Int32) (nd : Nat) (p : Nat → Int) (k u : Nat) (hnd : nd ≤ 24) (hpk : ∀ k, k < nd → (ab k).toInt = p k) (hp : inT p nd) (hsr : ∀ k, k < nd → srF p nd k < nd) (hk : k < nd) (hu : u < nd) : MC E Y_X7_isBelow [.ref m0, .int (iI (k : Int)), .int (iI (u : Int))] [(m0, jO 7 [.int (iI thr), .int (iI ask), .int (iI fnd), .ref m1, .ref m2, .ref m3, .int (iI n), .int (iI wd), .ref m4, .ref m5, .int (iI mm), .ref m6, .ref m7, .int (iI um), .ref m8, .ref m9, .ref m10, .ref m11, .int (iI pd), .int (iI (nd : Int)), .ref m12, .int (iI pal)]), (m12, jA E 24 ab)] (fun rr N0 => rr = some (.int (iI (bI (srF p nd u ≤ srF p nd k ∧ upF p (srF p nd k - srF p nd u) k = u)))) ∧ N0 = [(m0, jO 7 [.int (iI thr), .int (iI ask), .int (iI fnd), .ref m1, .ref m2, .ref m3, .int (iI n), .int (iI wd), .ref m4, .ref m5, .int (iI mm), .ref m6, .ref m7, .int (iI um), .ref m8, .ref m9, .ref m10, .ref m11, .int (iI pd), .int (iI (nd : Int)), .ref m12, .int (iI pal)]), (m12, jA E 24 ab)]) := by
  refine MC.of (by decide) rfl rfl ?_
  have h1 := srF_le p nd k
  have h2 := srF_le p nd u
  refine j_aload_0 1 dX7_isBelow_0 rfl ?_
  refine j_iload_1 2 dX7_isBelow_1 rfl ?_
  refine j_callVi 5 Y_X7_deepness [0, 1] [_] (c_X7_deepness E _ _ _ _ _ _ _ _ _ _ _ _ _ _ _ _ _ _ _ _ _ _ _ _ p _ hnd hpk hp hsr (by omega)) m_X7_deepness wml_X7_143 dX7_isBelow_2 0 rfl rfl rfl rfl rfl rfl rfl rfl rfl rfl ?_
  refine j_aload_0 6 dX7_isBelow_5 rfl ?_
  refine j_iload_2 7 dX7_isBelow_6 rfl ?_
  refine j_callVi 10 Y_X7_deepness [0, 1] [_] (c_X7_deepness E _ _ _ _ _ _ _ _ _ _ _ _ _ _ _ _ _ _ _ _ _ _ _ _ p _ hnd hpk hp hsr (by omega)) m_X7_deepness wml_X7_143 dX7_isBelow_7 0 rfl rfl rfl rfl rfl rfl rfl rfl rfl rfl ?_
  refine j_icmp_lt 31 13 dX7_isBelow_10 (by first | with_reducible exact iI_rng _ | with_reducible exact bI_r _ | exact ⟨by omega, by omega⟩) (by first | with_reducible exact iI_rng _ | with_reducible exact bI_r _ | exact ⟨by omega, by omega⟩) (fun q10 => ?_) (fun q10 => ?_)
  · refine j_iconst 32 dX7_isBelow_31 ?_
    exact j_zret (by first | exact bI_n _ | decide +kernel) dX7_isBelow_32 rfl rfl ⟨congrArg (fun z => some (Value.int (iI z))) (by first | exact (bI_t (by omega)).symm | exact (bI_f (by omega)).symm), rfl⟩
  · refine j_aload_0 14 dX7_isBelow_13 rfl ?_
    refine j_iload_1 15 dX7_isBelow_14 rfl ?_
    refine j_aload_0 16 dX7_isBelow_15 rfl ?_
    refine j_iload_2 17 dX7_isBelow_16 rfl ?_
    refine j_callVi 20 Y_X7_deepness [0, 1] [_] (c_X7_deepness E _ _ _ _ _ _ _ _ _ _ _ _ _ _ _ _ _ _ _ _ _ _ _ _ p _ hnd hpk hp hsr (by omega)) m_X7_deepness wml_X7_143 dX7_isBelow_17 0 rfl rfl rfl rfl rfl rfl rfl rfl rfl rfl ?_
    refine j_callVi 23 Y_X7_upTo [0, 1] [_, _] (c_X7_upTo E _ _ _ _ _ _ _ _ _ _ _ _ _ _ _ _ _ _ _ _ _ _ _ _ p k (srF p nd u) hnd hpk hp hsr (by omega) (by omega)) m_X7_upTo wml_X7_146 dX7_isBelow_20 0 rfl rfl rfl rfl rfl rfl rfl rfl rfl rfl ?_
    refine j_iload_2 24 dX7_isBelow_23 rfl ?_
    refine j_icmp_ne 31 27 dX7_isBelow_24 (by have := (up_in hp nd k hk (srF p nd k - srF p nd u) (by omega)).1; exact ⟨by omega, by omega⟩) (by first | with_reducible exact iI_rng _ | with_reducible exact bI_r _ | exact ⟨by omega, by omega⟩) (fun q24 => ?_) (fun q24 => ?_)
    · refine j_iconst 32 dX7_isBelow_31 ?_
      exact j_zret (by first | exact bI_n _ | decide +kernel) dX7_isBelow_32 rfl rfl ⟨congrArg (fun z => some (Value.int (iI z))) (by first | exact (bI_t (by omega)).symm | exact (bI_f (by omega)).symm), rfl⟩
    · refine j_iconst 28 dX7_isBelow_27 ?_
      refine j_goto 32 dX7_isBelow_28 ?_
      exact j_zret (by first | exact bI_n _ | decide +kernel) dX7_isBelow_32 rfl rfl ⟨congrArg (fun z => some (Value.int (iI z))) (by first | exact (bI_t (by omega)).symm | exact (bI_f (by omega)).symm), rfl⟩

set_option maxRecDepth 100000 in
set_option maxHeartbeats 4000000 in
theorem lp7_below (E : jD) (fnd : Int) (ask : Int) (wd : Int) (n : Int) (mm : Int) (um : Int) (m0 : Nat) (m1 : Nat) (m2 : Nat) (m3 : Nat) (m4 : Nat) (m5 : Nat) (m6 : Nat) (m7 : Nat) (m8 : Nat) (m9 : Nat) (m10 : Nat) (m11 : Nat) (m12 : Nat) (thr : Int) (pd : Int) (pal : Int) (ab : Nat → Int32) (nd : Nat) (p : Nat → Int) (hnd : nd ≤ 24) (hpk : ∀ k, k < nd → (ab k).toInt = p k) (hp : inT p nd) (hsr : ∀ k, k < nd → srF p nd k < nd) (u : Nat) (hu : u < nd) : ∀ (d : Nat) (k : Nat), nd - k < d → (k ≤ nd) → J E Y_X7_below (jZm E Y_X7_below (fun rr N0 => rr = some (.int (iI (((beF p nd u nd : Nat) : Int)))) ∧ N0 = [(m0, jO 7 [.int (iI thr), .int (iI ask), .int (iI fnd), .ref m1, .ref m2, .ref m3, .int (iI n), .int (iI wd), .ref m4, .ref m5, .int (iI mm), .ref m6, .ref m7, .int (iI um), .ref m8, .ref m9, .ref m10, .ref m11, .int (iI pd), .int (iI (nd : Int)), .ref m12, .int (iI pal)]), (m12, jA E 24 ab)])) 0 0 4 [(0, .ref m0), (1, .int (iI (u : Int))), (2, .int (iI ((beF p nd u k : Nat) : Int))), (3, .int (iI (k : Int)))] [] [(m0, jO 7 [.int (iI thr), .int (iI ask), .int (iI fnd), .ref m1, .ref m2, .ref m3, .int (iI n), .int (iI wd), .ref m4, .ref m5, .int (iI mm), .ref m6, .ref m7, .int (iI um), .ref m8, .ref m9, .ref m10, .ref m11, .int (iI pd), .int (iI (nd : Int)), .ref m12, .int (iI pal)]), (m12, jA E 24 ab)] := by
  intro d
  induction d with
  | zero => intros; omega
  | succ d ih =>
    intro k hd hk
    have hbl := beF_le p nd u k
    refine j_iload_3 5 dX7_below_4 rfl ?_
    refine j_aload_0 6 dX7_below_5 rfl ?_
    refine j_get 9 0 gf_X7_140 dX7_below_6 rfl rfl ?_
    refine j_icmp_ge 35 12 dX7_below_9 (by first | with_reducible exact iI_rng _ | with_reducible exact bI_r _ | exact ⟨by omega, by omega⟩) (by first | with_reducible exact iI_rng _ | with_reducible exact bI_r _ | exact ⟨by omega, by omega⟩) (fun q9 => ?_) (fun q9 => ?_)
    · have e0 : nd = k := by omega
      subst e0
      refine j_iload_2 36 dX7_below_35 rfl ?_
      exact j_iret dX7_below_36 rfl rfl ⟨rfl, rfl⟩
    · have hst : beF p nd u (k + 1) = beF p nd u k + (if (srF p nd u ≤ srF p nd k ∧ upF p (srF p nd k - srF p nd u) k = u) then 1 else 0) := rfl
      refine j_iload_2 13 dX7_below_12 rfl ?_
      refine j_aload_0 14 dX7_below_13 rfl ?_
      refine j_iload_3 15 dX7_below_14 rfl ?_
      refine j_iload_1 16 dX7_below_15 rfl ?_
      refine j_callVi 19 Y_X7_isBelow [0, 1] [_, _] (c_X7_isBelow E _ _ _ _ _ _ _ _ _ _ _ _ _ _ _ _ _ _ _ _ _ _ _ _ p _ _ hnd hpk hp hsr (by omega) (by omega)) m_X7_isBelow wml_X7_158 dX7_below_16 0 rfl rfl rfl rfl rfl rfl rfl rfl rfl rfl ?_
      refine j_bif_eq 26 22 dX7_below_19 (fun q19 => ?_) (fun q19 => ?_)
      · rw [if_neg q19] at hst
        refine j_iconst 27 dX7_below_26 ?_
        refine j_iadd 28 dX7_below_27 ?_
        refine j_istore_2 29 (lv' := [(0, _), (1, _), (2, _), (3, _)]) dX7_below_28 rfl ⟨rfl, rfl⟩ ?_
        refine j_iinc 32 (lv' := [(0, _), (1, _), (2, _), (3, _)]) dX7_below_29 rfl rfl ⟨rfl, rfl⟩ ?_
        refine j_goto 4 dX7_below_32 ?_
        have h := ih (k + 1) (by omega) (by omega)
        rw [hst] at h
        exact h
      · rw [if_pos q19] at hst
        refine j_iconst 23 dX7_below_22 ?_
        refine j_goto 27 dX7_below_23 ?_
        refine j_iadd 28 dX7_below_27 ?_
        refine j_istore_2 29 (lv' := [(0, _), (1, _), (2, _), (3, _)]) dX7_below_28 rfl ⟨rfl, rfl⟩ ?_
        refine j_iinc 32 (lv' := [(0, _), (1, _), (2, _), (3, _)]) dX7_below_29 rfl rfl ⟨rfl, rfl⟩ ?_
        refine j_goto 4 dX7_below_32 ?_
        have h := ih (k + 1) (by omega) (by omega)
        rw [hst] at h
        exact h

set_option maxRecDepth 100000 in
set_option maxHeartbeats 4000000 in
theorem c_X7_below (E : jD) (fnd : Int) (ask : Int) (wd : Int) (n : Int) (mm : Int) (um : Int) (m0 : Nat) (m1 : Nat) (m2 : Nat) (m3 : Nat) (m4 : Nat) (m5 : Nat) (m6 : Nat) (m7 : Nat) (m8 : Nat) (m9 : Nat) (m10 : Nat) (m11 : Nat) (m12 : Nat) (thr : Int) (pd : Int) (pal : Int) (ab : Nat → Int32) (nd : Nat) (p : Nat → Int) (u : Nat) (hnd : nd ≤ 24) (hpk : ∀ k, k < nd → (ab k).toInt = p k) (hp : inT p nd) (hsr : ∀ k, k < nd → srF p nd k < nd) (hu : u < nd) : MC E Y_X7_below [.ref m0, .int (iI (u : Int))] [(m0, jO 7 [.int (iI thr), .int (iI ask), .int (iI fnd), .ref m1, .ref m2, .ref m3, .int (iI n), .int (iI wd), .ref m4, .ref m5, .int (iI mm), .ref m6, .ref m7, .int (iI um), .ref m8, .ref m9, .ref m10, .ref m11, .int (iI pd), .int (iI (nd : Int)), .ref m12, .int (iI pal)]), (m12, jA E 24 ab)] (fun rr N0 => rr = some (.int (iI (((beF p nd u nd : Nat) : Int)))) ∧ N0 = [(m0, jO 7 [.int (iI thr), .int (iI ask), .int (iI fnd), .ref m1, .ref m2, .ref m3, .int (iI n), .int (iI wd), .ref m4, .ref m5, .int (iI mm), .ref m6, .ref m7, .int (iI um), .ref m8, .ref m9, .ref m10, .ref m11, .int (iI pd), .int (iI (nd : Int)), .ref m12, .int (iI pal)]), (m12, jA E 24 ab)]) := by
  refine MC.of (by decide) rfl rfl ?_
  refine j_iconst 1 dX7_below_0 ?_
  refine j_istore_2 2 (lv' := [(0, _), (1, _), (2, _)]) dX7_below_1 rfl ⟨rfl, rfl⟩ ?_
  refine j_iconst 3 dX7_below_2 ?_
  refine j_istore_3 4 (lv' := [(0, _), (1, _), (2, _), (3, _)]) dX7_below_3 rfl ⟨rfl, rfl⟩ ?_
  exact lp7_below E fnd ask wd n mm um m0 m1 m2 m3 m4 m5 m6 m7 m8 m9 m10 m11 m12 thr pd pal ab nd p hnd hpk hp hsr u hu (nd + 1) 0 (by omega) (by omega)

set_option maxRecDepth 100000 in
set_option maxHeartbeats 4000000 in
theorem lp7_firstMet_in (E : jD) (fnd : Int) (ask : Int) (wd : Int) (n : Int) (mm : Int) (um : Int) (m0 : Nat) (m1 : Nat) (m2 : Nat) (m3 : Nat) (m4 : Nat) (m5 : Nat) (m6 : Nat) (m7 : Nat) (m8 : Nat) (m9 : Nat) (m10 : Nat) (m11 : Nat) (m12 : Nat) (thr : Int) (pd : Int) (pal : Int) (ab : Nat → Int32) (nd : Nat) (p : Nat → Int) (hnd : nd ≤ 24) (hpk : ∀ k, k < nd → (ab k).toInt = p k) (hp : inT p nd) (hsr : ∀ k, k < nd → srF p nd k < nd) (u t : Nat) (z : Int) (ht : t < nd) : ∀ (d : Nat) (k : Nat), t - k < d → (k ≤ t) → (J E Y_X7_firstMet (jZm E Y_X7_firstMet (fun rr N0 => rr = some (.int (iI (fmF p nd nd u (srF p nd u : Nat)))) ∧ N0 = [(m0, jO 7 [.int (iI thr), .int (iI ask), .int (iI fnd), .ref m1, .ref m2, .ref m3, .int (iI n), .int (iI wd), .ref m4, .ref m5, .int (iI mm), .ref m6, .ref m7, .int (iI um), .ref m8, .ref m9, .ref m10, .ref m11, .int (iI pd), .int (iI (nd : Int)), .ref m12, .int (iI pal)]), (m12, jA E 24 ab)])) 0 0 64 [(0, .ref m0), (1, .int (iI (u : Int))), (2, .int (iI (z + brF p nd t t))), (3, .int (iI (t : Int))), (4, .int (iI (t : Int)))] [] [(m0, jO 7 [.int (iI thr), .int (iI ask), .int (iI fnd), .ref m1, .ref m2, .ref m3, .int (iI n), .int (iI wd), .ref m4, .ref m5, .int (iI mm), .ref m6, .ref m7, .int (iI um), .ref m8, .ref m9, .ref m10, .ref m11, .int (iI pd), .int (iI (nd : Int)), .ref m12, .int (iI pal)]), (m12, jA E 24 ab)]) → J E Y_X7_firstMet (jZm E Y_X7_firstMet (fun rr N0 => rr = some (.int (iI (fmF p nd nd u (srF p nd u : Nat)))) ∧ N0 = [(m0, jO 7 [.int (iI thr), .int (iI ask), .int (iI fnd), .ref m1, .ref m2, .ref m3, .int (iI n), .int (iI wd), .ref m4, .ref m5, .int (iI mm), .ref m6, .ref m7, .int (iI um), .ref m8, .ref m9, .ref m10, .ref m11, .int (iI pd), .int (iI (nd : Int)), .ref m12, .int (iI pal)]), (m12, jA E 24 ab)])) 0 0 21 [(0, .ref m0), (1, .int (iI (u : Int))), (2, .int (iI (z + brF p nd t k))), (3, .int (iI (t : Int))), (4, .int (iI (k : Int)))] [] [(m0, jO 7 [.int (iI thr), .int (iI ask), .int (iI fnd), .ref m1, .ref m2, .ref m3, .int (iI n), .int (iI wd), .ref m4, .ref m5, .int (iI mm), .ref m6, .ref m7, .int (iI um), .ref m8, .ref m9, .ref m10, .ref m11, .int (iI pd), .int (iI (nd : Int)), .ref m12, .int (iI pal)]), (m12, jA E 24 ab)] := by
  intro d
  induction d with
  | zero => intros; omega
  | succ d ih =>
    intro k hd hk kk
    refine j_iload 23 dX7_firstMet_21 rfl ?_
    refine j_iload_3 24 dX7_firstMet_23 rfl ?_
    refine j_icmp_ge 64 27 dX7_firstMet_24 (by first | with_reducible exact iI_rng _ | with_reducible exact bI_r _ | exact ⟨by omega, by omega⟩) (by first | with_reducible exact iI_rng _ | with_reducible exact bI_r _ | exact ⟨by omega, by omega⟩) (fun q24 => ?_) (fun q24 => ?_)
    · have e0 : t = k := by omega
      subst e0
      exact kk
    · have hst : brF p nd t (k + 1) = brF p nd t k + (if p k = p t then 2 * (beF p nd k nd : Int) else 0) := rfl
      have hpk1 := hp k (by omega)
      have hpt1 := hp t ht
      refine j_iload_2 28 dX7_firstMet_27 rfl ?_
      refine j_aload_0 29 dX7_firstMet_28 rfl ?_
      refine j_get 32 0 gf_X7_43 dX7_firstMet_29 rfl rfl ?_
      refine j_iload 34 dX7_firstMet_32 rfl ?_
      refine j_ialdw 35 1 (k) (p k) dX7_firstMet_34 rfl rfl rfl (by omega) (by rw [← iI_x (ab _), hpk _ (by omega)]) ?_
      refine j_aload_0 36 dX7_firstMet_35 rfl ?_
      refine j_get 39 0 gf_X7_43 dX7_firstMet_36 rfl rfl ?_
      refine j_iload_3 40 dX7_firstMet_39 rfl ?_
      refine j_ialdw 41 1 (t) (p t) dX7_firstMet_40 rfl rfl rfl (by omega) (by rw [← iI_x (ab _), hpk _ ht]) ?_
      refine j_icmp_ne 55 44 dX7_firstMet_41 (by first | with_reducible exact iI_rng _ | with_reducible exact bI_r _ | exact ⟨by omega, by omega⟩) (by first | with_reducible exact iI_rng _ | with_reducible exact bI_r _ | exact ⟨by omega, by omega⟩) (fun q41 => ?_) (fun q41 => ?_)
      · rw [if_neg q41] at hst
        refine j_iconst 56 dX7_firstMet_55 ?_
        refine j_iadd 57 dX7_firstMet_56 ?_
        refine j_istore_2 58 (lv' := [(0, _), (1, _), (2, _), (3, _), (4, _)]) dX7_firstMet_57 rfl ⟨rfl, rfl⟩ ?_
        refine j_iinc 61 (lv' := [(0, _), (1, _), (2, _), (3, _), (4, _)]) dX7_firstMet_58 rfl rfl ⟨rfl, rfl⟩ ?_
        refine j_goto 21 dX7_firstMet_61 ?_
        have h := ih (k + 1) (by omega) (by omega) kk
        rw [hst, ← Int.add_assoc] at h
        exact h
      · rw [if_pos q41] at hst
        refine j_iconst 45 dX7_firstMet_44 ?_
        refine j_aload_0 46 dX7_firstMet_45 rfl ?_
        refine j_iload 48 dX7_firstMet_46 rfl ?_
        refine j_callVi 51 Y_X7_below [0, 1] [_] (c_X7_below E _ _ _ _ _ _ _ _ _ _ _ _ _ _ _ _ _ _ _ _ _ _ _ _ p _ hnd hpk hp hsr (by omega)) m_X7_below wml_X7_162 dX7_firstMet_48 0 rfl rfl rfl rfl rfl rfl rfl rfl rfl rfl ?_
        refine j_imul 52 dX7_firstMet_51 ?_
        refine j_goto 56 dX7_firstMet_52 ?_
        refine j_iadd 57 dX7_firstMet_56 ?_
        refine j_istore_2 58 (lv' := [(0, _), (1, _), (2, _), (3, _), (4, _)]) dX7_firstMet_57 rfl ⟨rfl, rfl⟩ ?_
        refine j_iinc 61 (lv' := [(0, _), (1, _), (2, _), (3, _), (4, _)]) dX7_firstMet_58 rfl rfl ⟨rfl, rfl⟩ ?_
        refine j_goto 21 dX7_firstMet_61 ?_
        have h := ih (k + 1) (by omega) (by omega) kk
        rw [hst, ← Int.add_assoc] at h
        exact h

set_option maxRecDepth 100000 in
set_option maxHeartbeats 4000000 in
theorem lp7_firstMet (E : jD) (fnd : Int) (ask : Int) (wd : Int) (n : Int) (mm : Int) (um : Int) (m0 : Nat) (m1 : Nat) (m2 : Nat) (m3 : Nat) (m4 : Nat) (m5 : Nat) (m6 : Nat) (m7 : Nat) (m8 : Nat) (m9 : Nat) (m10 : Nat) (m11 : Nat) (m12 : Nat) (thr : Int) (pd : Int) (pal : Int) (ab : Nat → Int32) (nd : Nat) (p : Nat → Int) (hnd : nd ≤ 24) (hpk : ∀ k, k < nd → (ab k).toInt = p k) (hp : inT p nd) (hsr : ∀ k, k < nd → srF p nd k < nd) (u : Nat) (hu : u < nd) : ∀ (d : Nat) (j : Nat) (z : Int) (z4 : List (Nat × Value)), srF p nd u - j < d → (j ≤ srF p nd u) → (z4 = [] ∨ ∃ x, z4 = [(4, x)]) → (fmF p nd (nd - j) (upF p j u) z = fmF p nd nd u (srF p nd u : Nat)) → J E Y_X7_firstMet (jZm E Y_X7_firstMet (fun rr N0 => rr = some (.int (iI (fmF p nd nd u (srF p nd u : Nat)))) ∧ N0 = [(m0, jO 7 [.int (iI thr), .int (iI ask), .int (iI fnd), .ref m1, .ref m2, .ref m3, .int (iI n), .int (iI wd), .ref m4, .ref m5, .int (iI mm), .ref m6, .ref m7, .int (iI um), .ref m8, .ref m9, .ref m10, .ref m11, .int (iI pd), .int (iI (nd : Int)), .ref m12, .int (iI pal)]), (m12, jA E 24 ab)])) 0 0 8 ([(0, .ref m0), (1, .int (iI (u : Int))), (2, .int (iI (z))), (3, .int (iI (((upF p j u : Nat) : Int) : Int)))] ++ z4) [] [(m0, jO 7 [.int (iI thr), .int (iI ask), .int (iI fnd), .ref m1, .ref m2, .ref m3, .int (iI n), .int (iI wd), .ref m4, .ref m5, .int (iI mm), .ref m6, .ref m7, .int (iI um), .ref m8, .ref m9, .ref m10, .ref m11, .int (iI pd), .int (iI (nd : Int)), .ref m12, .int (iI pal)]), (m12, jA E 24 ab)] := by
  intro d
  induction d with
  | zero => intros; omega
  | succ d ih =>
    intro j z z4 hd hj hz4 he
    obtain ⟨hu1, hu2⟩ := up_in hp nd u hu j hj
    have hpt := hp _ hu1
    have hsl := hsr u hu
    obtain ⟨c, hc⟩ : ∃ c, nd - j = c + 1 := ⟨nd - j - 1, by omega⟩
    rw [hc] at he
    refine j_take 4 ?_
    refine j_eqL (lv' := [(0, .ref m0), (1, .int (iI (u : Int))), (2, .int (iI (z))), (3, .int (iI (((upF p j u : Nat) : Int) : Int)))]) (by rcases hz4 with rfl | ⟨x, rfl⟩ <;> rfl) ?_
    refine j_aload_0 9 dX7_firstMet_8 rfl ?_
    refine j_get 12 0 gf_X7_43 dX7_firstMet_9 rfl rfl ?_
    refine j_iload_3 13 dX7_firstMet_12 rfl ?_
    refine j_ialdw 14 1 (upF p j u) (p (upF p j u)) dX7_firstMet_13 rfl rfl rfl (by omega) (by rw [← iI_x (ab _), hpk _ hu1]) ?_
    refine j_iconst 15 dX7_firstMet_14 ?_
    refine j_icmp_eq 74 18 dX7_firstMet_15 (by first | with_reducible exact iI_rng _ | with_reducible exact bI_r _ | exact ⟨by omega, by omega⟩) (by first | with_reducible exact iI_rng _ | with_reducible exact bI_r _ | exact ⟨by omega, by omega⟩) (fun q15 => ?_) (fun q15 => ?_)
    · have e2 : fmF p nd (c + 1) (upF p j u) z = z := if_pos q15
      rw [e2] at he
      refine j_iload_2 75 dX7_firstMet_74 rfl ?_
      exact j_iret dX7_firstMet_75 rfl rfl ⟨congrArg (fun z => some (Value.int (iI z))) (by rw [← he]), rfl⟩
    · have hlt : j < srF p nd u := by
        refine Nat.lt_of_le_of_ne hj (fun h => q15 ?_)
        rw [h]; exact up_root hp nd u hu (hsr u hu)
      have e2 : fmF p nd (c + 1) (upF p j u) z = fmF p nd c (p (upF p j u)).toNat (z + brF p nd (upF p j u) (upF p j u)) := if_neg q15
      rw [e2, ← upF_s] at he
      refine j_iconst 19 dX7_firstMet_18 ?_
      refine j_istore 21 (lv' := [(0, _), (1, _), (2, _), (3, _), (4, _)]) dX7_firstMet_19 rfl ⟨rfl, rfl⟩ ?_
      refine j_eqL (lv' := [(0, .ref m0), (1, .int (iI (u : Int))), (2, .int (iI (z + brF p nd (upF p j u) 0))), (3, .int (iI (((upF p j u : Nat) : Int) : Int))), (4, .int (iI (((0 : Nat) : Int) : Int)))]) (by rw [show brF p nd (upF p j u) 0 = 0 from rfl, Int.add_zero]; rfl) ?_
      refine lp7_firstMet_in E fnd ask wd n mm um m0 m1 m2 m3 m4 m5 m6 m7 m8 m9 m10 m11 m12 thr pd pal ab nd p hnd hpk hp hsr u (upF p j u) z hu1 (upF p j u + 1) 0 (by omega) (by omega) ?_
      refine j_aload_0 65 dX7_firstMet_64 rfl ?_
      refine j_get 68 0 gf_X7_43 dX7_firstMet_65 rfl rfl ?_
      refine j_iload_3 69 dX7_firstMet_68 rfl ?_
      refine j_ialdw 70 1 (upF p j u) (((upF p (j + 1) u : Nat) : Int)) dX7_firstMet_69 rfl rfl rfl (by omega) (by rw [← iI_x (ab _), hpk _ hu1, upF_s]; exact congrArg iI (by omega)) ?_
      refine j_istore_3 71 (lv' := [(0, _), (1, _), (2, _), (3, _), (4, _)]) dX7_firstMet_70 rfl ⟨rfl, rfl⟩ ?_
      refine j_goto 8 dX7_firstMet_71 ?_
      exact ih (j + 1) _ [(4, _)] (by omega) (by omega) (Or.inr ⟨_, rfl⟩) (by rw [show nd - (j + 1) = c by omega]; exact he)

set_option maxRecDepth 100000 in
set_option maxHeartbeats 4000000 in
theorem c_X7_firstMet (E : jD) (fnd : Int) (ask : Int) (wd : Int) (n : Int) (mm : Int) (um : Int) (m0 : Nat) (m1 : Nat) (m2 : Nat) (m3 : Nat) (m4 : Nat) (m5 : Nat) (m6 : Nat) (m7 : Nat) (m8 : Nat) (m9 : Nat) (m10 : Nat) (m11 : Nat) (m12 : Nat) (thr : Int) (pd : Int) (pal : Int) (ab : Nat → Int32) (nd : Nat) (p : Nat → Int) (u : Nat) (hnd : nd ≤ 24) (hpk : ∀ k, k < nd → (ab k).toInt = p k) (hp : inT p nd) (hsr : ∀ k, k < nd → srF p nd k < nd) (hu : u < nd) : MC E Y_X7_firstMet [.ref m0, .int (iI (u : Int))] [(m0, jO 7 [.int (iI thr), .int (iI ask), .int (iI fnd), .ref m1, .ref m2, .ref m3, .int (iI n), .int (iI wd), .ref m4, .ref m5, .int (iI mm), .ref m6, .ref m7, .int (iI um), .ref m8, .ref m9, .ref m10, .ref m11, .int (iI pd), .int (iI (nd : Int)), .ref m12, .int (iI pal)]), (m12, jA E 24 ab)] (fun rr N0 => rr = some (.int (iI (fmF p nd nd u (srF p nd u : Nat)))) ∧ N0 = [(m0, jO 7 [.int (iI thr), .int (iI ask), .int (iI fnd), .ref m1, .ref m2, .ref m3, .int (iI n), .int (iI wd), .ref m4, .ref m5, .int (iI mm), .ref m6, .ref m7, .int (iI um), .ref m8, .ref m9, .ref m10, .ref m11, .int (iI pd), .int (iI (nd : Int)), .ref m12, .int (iI pal)]), (m12, jA E 24 ab)]) := by
  refine MC.of (by decide) rfl rfl ?_
  refine j_aload_0 1 dX7_firstMet_0 rfl ?_
  refine j_iload_1 2 dX7_firstMet_1 rfl ?_
  refine j_callVi 5 Y_X7_deepness [0, 1] [_] (c_X7_deepness E _ _ _ _ _ _ _ _ _ _ _ _ _ _ _ _ _ _ _ _ _ _ _ _ p _ hnd hpk hp hsr (by omega)) m_X7_deepness wml_X7_143 dX7_firstMet_2 0 rfl rfl rfl rfl rfl rfl rfl rfl rfl rfl ?_
  refine j_istore_2 6 (lv' := [(0, _), (1, _), (2, _)]) dX7_firstMet_5 rfl ⟨rfl, rfl⟩ ?_
  refine j_iload_1 7 dX7_firstMet_6 rfl ?_
  refine j_istore_3 8 (lv' := [(0, _), (1, _), (2, _), (3, _)]) dX7_firstMet_7 rfl ⟨rfl, rfl⟩ ?_
  exact lp7_firstMet E fnd ask wd n mm um m0 m1 m2 m3 m4 m5 m6 m7 m8 m9 m10 m11 m12 thr pd pal ab nd p hnd hpk hp hsr u hu (srF p nd u + 1) 0 _ [] (by omega) (by omega) (Or.inl rfl) (by rw [Nat.sub_zero]; rfl)

set_option maxRecDepth 100000 in
set_option maxHeartbeats 4000000 in
theorem lp7_meeting (E : jD) (fnd : Int) (ask : Int) (wd : Int) (n : Int) (mm : Int) (um : Int) (m0 : Nat) (m1 : Nat) (m2 : Nat) (m3 : Nat) (m4 : Nat) (m5 : Nat) (m6 : Nat) (m7 : Nat) (m8 : Nat) (m9 : Nat) (m10 : Nat) (m11 : Nat) (m12 : Nat) (thr : Int) (pd : Int) (pal : Int) (ab : Nat → Int32) (nd : Nat) (p : Nat → Int) (hnd : nd ≤ 24) (hpk : ∀ k, k < nd → (ab k).toInt = p k) (hp : inT p nd) (hsr : ∀ k, k < nd → srF p nd k < nd) (u v : Nat) (hu : u < nd) (hv : v < nd) (hone : upF p (srF p nd u) u = upF p (srF p nd v) v) : ∀ (d : Nat) (d0 : Nat), d0 < d → (d0 ≤ min (srF p nd u) (srF p nd v)) → (mdF p nd u v d0 = (mdF p nd u v (min (srF p nd u) (srF p nd v)))) → J E Y_X7_meeting (jZm E Y_X7_meeting (fun rr N0 => rr = some (.int (iI (((upF p (srF p nd u - (mdF p nd u v (min (srF p nd u) (srF p nd v)))) u : Nat) : Int)))) ∧ N0 = [(m0, jO 7 [.int (iI thr), .int (iI ask), .int (iI fnd), .ref m1, .ref m2, .ref m3, .int (iI n), .int (iI wd), .ref m4, .ref m5, .int (iI mm), .ref m6, .ref m7, .int (iI um), .ref m8, .ref m9, .ref m10, .ref m11, .int (iI pd), .int (iI (nd : Int)), .ref m12, .int (iI pal)]), (m12, jA E 24 ab)])) 0 0 27 [(0, .ref m0), (1, .int (iI (u : Int))), (2, .int (iI (v : Int))), (3, .int (iI ((srF p nd u : Nat) : Int))), (4, .int (iI ((srF p nd v : Nat) : Int))), (5, .int (iI (d0 : Int)))] [] [(m0, jO 7 [.int (iI thr), .int (iI ask), .int (iI fnd), .ref m1, .ref m2, .ref m3, .int (iI n), .int (iI wd), .ref m4, .ref m5, .int (iI mm), .ref m6, .ref m7, .int (iI um), .ref m8, .ref m9, .ref m10, .ref m11, .int (iI pd), .int (iI (nd : Int)), .ref m12, .int (iI pal)]), (m12, jA E 24 ab)] := by
  intro d
  induction d with
  | zero => intros; omega
  | succ d ih =>
    intro d0 hd hd0 he
    have hx1 := (up_in hp nd u hu (srF p nd u - d0) (by omega)).1
    have hx2 := (up_in hp nd v hv (srF p nd v - d0) (by omega)).1
    have hs1 := srF_le p nd u
    have hs2 := srF_le p nd v
    refine j_aload_0 28 dX7_meeting_27 rfl ?_
    refine j_iload_1 29 dX7_meeting_28 rfl ?_
    refine j_iload 31 dX7_meeting_29 rfl ?_
    refine j_callVi 34 Y_X7_upTo [0, 1] [_, _] (c_X7_upTo E _ _ _ _ _ _ _ _ _ _ _ _ _ _ _ _ _ _ _ _ _ _ _ _ p u d0 hnd hpk hp hsr (by omega) (by omega)) m_X7_upTo wml_X7_146 dX7_meeting_31 0 rfl rfl rfl rfl rfl rfl rfl rfl rfl rfl ?_
    refine j_aload_0 35 dX7_meeting_34 rfl ?_
    refine j_iload_2 36 dX7_meeting_35 rfl ?_
    refine j_iload 38 dX7_meeting_36 rfl ?_
    refine j_callVi 41 Y_X7_upTo [0, 1] [_, _] (c_X7_upTo E _ _ _ _ _ _ _ _ _ _ _ _ _ _ _ _ _ _ _ _ _ _ _ _ p v d0 hnd hpk hp hsr (by omega) (by omega)) m_X7_upTo wml_X7_146 dX7_meeting_38 0 rfl rfl rfl rfl rfl rfl rfl rfl rfl rfl ?_
    refine j_icmp_eq 50 44 dX7_meeting_41 (by exact ⟨by omega, by omega⟩) (by exact ⟨by omega, by omega⟩) (fun q41 => ?_) (fun q41 => ?_)
    · have e : d0 = (mdF p nd u v (min (srF p nd u) (srF p nd v))) := by
        rw [← he]
        cases d0 with
        | zero => rfl
        | succ d1 => exact (if_pos (by omega)).symm
      rw [← e]
      refine j_aload_0 51 dX7_meeting_50 rfl ?_
      refine j_iload_1 52 dX7_meeting_51 rfl ?_
      refine j_iload 54 dX7_meeting_52 rfl ?_
      refine j_callVi 57 Y_X7_upTo [0, 1] [_, _] (c_X7_upTo E _ _ _ _ _ _ _ _ _ _ _ _ _ _ _ _ _ _ _ _ _ _ _ _ p u d0 hnd hpk hp hsr (by omega) (by omega)) m_X7_upTo wml_X7_146 dX7_meeting_54 0 rfl rfl rfl rfl rfl rfl rfl rfl rfl rfl ?_
      exact j_iret dX7_meeting_57 rfl rfl ⟨rfl, rfl⟩
    · obtain ⟨d0, rfl⟩ : ∃ d1, d0 = d1 + 1 := by
        cases d0 with
        | zero => exact absurd (congrArg (fun x : Nat => (x : Int)) hone) q41
        | succ d1 => exact ⟨d1, rfl⟩
      have e2 : mdF p nd u v (d0 + 1) = mdF p nd u v d0 := if_neg (by omega)
      refine j_iinc 47 (lv' := [(0, _), (1, _), (2, _), (3, _), (4, _), (5, _)]) dX7_meeting_44 rfl rfl ⟨rfl, rfl⟩ ?_
      refine j_goto 27 dX7_meeting_47 ?_
      have h := ih d0 (by omega) (by omega) (by rw [← he, e2])
      rw [show ((d0 : Nat) : Int) = ((d0 + 1 : Nat) : Int) + -1 by omega] at h
      exact h

set_option maxRecDepth 100000 in
set_option maxHeartbeats 4000000 in
theorem c_X7_meeting (E : jD) (fnd : Int) (ask : Int) (wd : Int) (n : Int) (mm : Int) (um : Int) (m0 : Nat) (m1 : Nat) (m2 : Nat) (m3 : Nat) (m4 : Nat) (m5 : Nat) (m6 : Nat) (m7 : Nat) (m8 : Nat) (m9 : Nat) (m10 : Nat) (m11 : Nat) (m12 : Nat) (thr : Int) (pd : Int) (pal : Int) (ab : Nat → Int32) (nd : Nat) (p : Nat → Int) (u v : Nat) (hnd : nd ≤ 24) (hpk : ∀ k, k < nd → (ab k).toInt = p k) (hp : inT p nd) (hsr : ∀ k, k < nd → srF p nd k < nd) (hu : u < nd) (hv : v < nd) (hone : upF p (srF p nd u) u = upF p (srF p nd v) v) : MC E Y_X7_meeting [.ref m0, .int (iI (u : Int)), .int (iI (v : Int))] [(m0, jO 7 [.int (iI thr), .int (iI ask), .int (iI fnd), .ref m1, .ref m2, .ref m3, .int (iI n), .int (iI wd), .ref m4, .ref m5, .int (iI mm), .ref m6, .ref m7, .int (iI um), .ref m8, .ref m9, .ref m10, .ref m11, .int (iI pd), .int (iI (nd : Int)), .ref m12, .int (iI pal)]), (m12, jA E 24 ab)] (fun rr N0 => rr = some (.int (iI (((upF p (srF p nd u - (mdF p nd u v (min (srF p nd u) (srF p nd v)))) u : Nat) : Int)))) ∧ N0 = [(m0, jO 7 [.int (iI thr), .int (iI ask), .int (iI fnd), .ref m1, .ref m2, .ref m3, .int (iI n), .int (iI wd), .ref m4, .ref m5, .int (iI mm), .ref m6, .ref m7, .int (iI um), .ref m8, .ref m9, .ref m10, .ref m11, .int (iI pd), .int (iI (nd : Int)), .ref m12, .int (iI pal)]), (m12, jA E 24 ab)]) := by
  refine MC.of (by decide) rfl rfl ?_
  have hs1 := srF_le p nd u
  have hs2 := srF_le p nd v
  refine j_aload_0 1 dX7_meeting_0 rfl ?_
  refine j_iload_1 2 dX7_meeting_1 rfl ?_
  refine j_callVi 5 Y_X7_deepness [0, 1] [_] (c_X7_deepness E _ _ _ _ _ _ _ _ _ _ _ _ _ _ _ _ _ _ _ _ _ _ _ _ p _ hnd hpk hp hsr (by omega)) m_X7_deepness wml_X7_143 dX7_meeting_2 0 rfl rfl rfl rfl rfl rfl rfl rfl rfl rfl ?_
  refine j_istore_3 6 (lv' := [(0, _), (1, _), (2, _), (3, _)]) dX7_meeting_5 rfl ⟨rfl, rfl⟩ ?_
  refine j_aload_0 7 dX7_meeting_6 rfl ?_
  refine j_iload_2 8 dX7_meeting_7 rfl ?_
  refine j_callVi 11 Y_X7_deepness [0, 1] [_] (c_X7_deepness E _ _ _ _ _ _ _ _ _ _ _ _ _ _ _ _ _ _ _ _ _ _ _ _ p _ hnd hpk hp hsr (by omega)) m_X7_deepness wml_X7_143 dX7_meeting_8 0 rfl rfl rfl rfl rfl rfl rfl rfl rfl rfl ?_
  refine j_istore 13 (lv' := [(0, _), (1, _), (2, _), (3, _), (4, _)]) dX7_meeting_11 rfl ⟨rfl, rfl⟩ ?_
  refine j_iload_3 14 dX7_meeting_13 rfl ?_
  refine j_iload 16 dX7_meeting_14 rfl ?_
  refine j_icmp_ge 23 19 dX7_meeting_16 (by first | with_reducible exact iI_rng _ | with_reducible exact bI_r _ | exact ⟨by omega, by omega⟩) (by first | with_reducible exact iI_rng _ | with_reducible exact bI_r _ | exact ⟨by omega, by omega⟩) (fun q16 => ?_) (fun q16 => ?_)
  · refine j_iload 25 dX7_meeting_23 rfl ?_
    refine j_top ((min (srF p nd u) (srF p nd v) : Nat) : Int) (congrArg iI (by omega)) ?_
    refine j_istore 27 (lv' := [(0, _), (1, _), (2, _), (3, _), (4, _), (5, _)]) dX7_meeting_25 rfl ⟨rfl, rfl⟩ ?_
    exact lp7_meeting E fnd ask wd n mm um m0 m1 m2 m3 m4 m5 m6 m7 m8 m9 m10 m11 m12 thr pd pal ab nd p hnd hpk hp hsr u v hu hv hone (min (srF p nd u) (srF p nd v) + 1) (min (srF p nd u) (srF p nd v)) (by omega) (by omega) rfl
  · refine j_iload_3 20 dX7_meeting_19 rfl ?_
    refine j_goto 25 dX7_meeting_20 ?_
    refine j_top ((min (srF p nd u) (srF p nd v) : Nat) : Int) (congrArg iI (by omega)) ?_
    refine j_istore 27 (lv' := [(0, _), (1, _), (2, _), (3, _), (4, _), (5, _)]) dX7_meeting_25 rfl ⟨rfl, rfl⟩ ?_
    exact lp7_meeting E fnd ask wd n mm um m0 m1 m2 m3 m4 m5 m6 m7 m8 m9 m10 m11 m12 thr pd pal ab nd p hnd hpk hp hsr u v hu hv hone (min (srF p nd u) (srF p nd v) + 1) (min (srF p nd u) (srF p nd v)) (by omega) (by omega) rfl
