set_option maxRecDepth 100000 in
set_option maxHeartbeats 4000000 in
theorem lp_countSizes_in (E : jD) (y0 y1 y2 y3 y4 y5 y6 y8 : Nat) (n : Nat) (pa de : Nat → Int32) (p : Nat → Int) (hn : n ≤ 24) (hpk : ∀ k, k < n → (pa k).toInt = p k) (hp : inT p n) (hde : ∀ k, k < n → de k = iI (srF p n k : Nat)) (hsr : ∀ k, k < n → srF p n k < n) (Z : jZ) (u : Nat) (hu : u < n) (kk : ∀ z, J E Y_X0_countSizes Z 0 0 55 [(0, .ref y0), (1, .int (iI (u : Int))), (2, z), (3, .int (iI ((srF p n u + 1 : Nat) : Int)))] [] [(y0, jO 0 [.ref y1, .ref y2, .ref y3, .ref y4, .ref y5, .ref y6, .ref y8, .int (iI (n : Int))]), (y1, jA E 24 pa), (y2, jA E 24 de), (y3, jA E 24 (cI (csN p (srF p n) (u + 1))))]) : ∀ (d : Nat) (k : Nat) (z : Int) (t : Nat) (c : Nat → Nat), srF p n u + 1 - k < d → (k ≤ srF p n u + 1) → (k ≤ srF p n u → z = (t : Int) ∧ t = upF p k u) → (ipN p (srF p n u + 1 - k) t c = (csN p (srF p n) (u + 1))) → J E Y_X0_countSizes Z 0 0 22 [(0, .ref y0), (1, .int (iI (u : Int))), (2, .int (iI z)), (3, .int (iI (k : Int)))] [] [(y0, jO 0 [.ref y1, .ref y2, .ref y3, .ref y4, .ref y5, .ref y6, .ref y8, .int (iI (n : Int))]), (y1, jA E 24 pa), (y2, jA E 24 de), (y3, jA E 24 (cI c))] := by
  intro d
  induction d with
  | zero => intros; omega
  | succ d ih =>
    intro k z t c hd hk hz he
    have hsl := hsr u hu
    refine j_iload_3 23 dX0_countSizes_22 rfl ?_
    refine j_aload_0 24 dX0_countSizes_23 rfl ?_
    refine j_get 27 0 gf_X0_15 dX0_countSizes_24 rfl rfl ?_
    refine j_iload_1 28 dX0_countSizes_27 rfl ?_
    refine j_ialdw 29 2 (u) ((srF p n u : Int)) dX0_countSizes_28 rfl rfl rfl (by omega) (hde u hu) ?_
    refine j_icmp_gt 55 32 dX0_countSizes_29 (by first | with_reducible exact iI_rng _ | with_reducible exact bI_r _ | exact ⟨by omega, by omega⟩) (by first | with_reducible exact iI_rng _ | with_reducible exact bI_r _ | exact ⟨by omega, by omega⟩) (fun h29 => ?_) (fun h29 => ?_)
    · have e : k = srF p n u + 1 := by omega
      subst e
      rw [Nat.sub_self] at he
      have e2 : c = _ := he
      rw [e2]
      exact kk _
    · obtain ⟨hz1, hz2⟩ := hz (by omega)
      subst hz1
      obtain ⟨hu1, hu2⟩ := up_in hp n u hu k (by omega)
      rw [← hz2] at hu1 hu2
      have hft := hpk t hu1
      have hpt := hp t hu1
      obtain ⟨m, hm⟩ : ∃ m, srF p n u + 1 - k = m + 1 := ⟨srF p n u - k, by omega⟩
      rw [hm] at he
      refine j_aload_0 33 dX0_countSizes_32 rfl ?_
      refine j_get 36 0 gf_X0_18 dX0_countSizes_33 rfl rfl ?_
      refine j_iload_2 37 dX0_countSizes_36 rfl ?_
      refine j_dup2 38 dX0_countSizes_37 rfl rfl ?_
      refine j_ialdw 39 3 (t) (((c t : Nat) : Int)) dX0_countSizes_38 rfl rfl rfl (by omega) rfl ?_
      refine j_iconst 40 dX0_countSizes_39 ?_
      refine j_iadd 41 dX0_countSizes_40 ?_
      refine j_iast 42 3 (t) dX0_countSizes_41 rfl rfl rfl (by omega) ?_
      rw [cI_upd]
      refine j_aload_0 43 dX0_countSizes_42 rfl ?_
      refine j_get 46 0 gf_X0_9 dX0_countSizes_43 rfl rfl ?_
      refine j_iload_2 47 dX0_countSizes_46 rfl ?_
      refine j_ialdw 48 1 (t) (p t) dX0_countSizes_47 rfl rfl rfl (by omega) (by rw [← iI_x (pa t), hft]) ?_
      refine j_istore_2 49 (lv' := [(0, _), (1, _), (2, _), (3, _)]) dX0_countSizes_48 rfl ⟨rfl, rfl⟩ ?_
      refine j_iinc 52 (lv' := [(0, _), (1, _), (2, _), (3, _)]) dX0_countSizes_49 rfl rfl ⟨rfl, rfl⟩ ?_
      refine j_goto 22 dX0_countSizes_52 ?_
      refine ih (k + 1) (p t) (p t).toNat _ (by omega) (by omega) (fun h => ⟨by have := hu2 (by omega); omega, by rw [upF_s, ← hz2]⟩) (by rw [show srF p n u + 1 - (k + 1) = m by omega]; exact he)

set_option maxRecDepth 100000 in
set_option maxHeartbeats 4000000 in
theorem lp_countSizes (E : jD) (y0 y1 y2 y3 y4 y5 y6 y8 : Nat) (n : Nat) (pa de : Nat → Int32) (p : Nat → Int) (hn : n ≤ 24) (hpk : ∀ k, k < n → (pa k).toInt = p k) (hp : inT p n) (hde : ∀ k, k < n → de k = iI (srF p n k : Nat)) (hsr : ∀ k, k < n → srF p n k < n) : ∀ (d : Nat) (u : Nat), n - u < d → (u ≤ n) → J E Y_X0_countSizes (jZm E Y_X0_countSizes (fun r N0 => ∃ sz2, r = none ∧ N0 = [(y0, jO 0 [.ref y1, .ref y2, .ref y3, .ref y4, .ref y5, .ref y6, .ref y8, .int (iI (n : Int))]), (y1, jA E 24 pa), (y2, jA E 24 de), (y3, jA E 24 sz2)] ∧ ∀ k, k < n → sz2 k = iI (csN p (srF p n) n k : Nat))) 0 0 10 [(0, .ref y0), (1, .int (iI (u : Int)))] [] [(y0, jO 0 [.ref y1, .ref y2, .ref y3, .ref y4, .ref y5, .ref y6, .ref y8, .int (iI (n : Int))]), (y1, jA E 24 pa), (y2, jA E 24 de), (y3, jA E 24 (cI (csN p (srF p n) u)))] := by
  intro d
  induction d with
  | zero => intros; omega
  | succ d ih =>
    intro u hd hu
    refine j_iload_1 11 dX0_countSizes_10 rfl ?_
    refine j_aload_0 12 dX0_countSizes_11 rfl ?_
    refine j_get 15 0 gf_X0_41 dX0_countSizes_12 rfl rfl ?_
    refine j_icmp_ge 61 18 dX0_countSizes_15 (by first | with_reducible exact iI_rng _ | with_reducible exact bI_r _ | exact ⟨by omega, by omega⟩) (by first | with_reducible exact iI_rng _ | with_reducible exact bI_r _ | exact ⟨by omega, by omega⟩) (fun h15 => ?_) (fun h15 => ?_)
    · have e : u = n := by omega
      subst e
      exact j_vret dX0_countSizes_61 rfl rfl ⟨_, rfl, rfl, fun k hk => rfl⟩
    · refine j_iload_1 19 dX0_countSizes_18 rfl ?_
      refine j_istore_2 20 (lv' := [(0, _), (1, _), (2, _)]) dX0_countSizes_19 rfl ⟨rfl, rfl⟩ ?_
      refine j_iconst 21 dX0_countSizes_20 ?_
      refine j_istore_3 22 (lv' := [(0, _), (1, _), (2, _), (3, _)]) dX0_countSizes_21 rfl ⟨rfl, rfl⟩ ?_
      refine lp_countSizes_in E y0 y1 y2 y3 y4 y5 y6 y8 n pa de p hn hpk hp hde hsr _ u (by omega) (fun z => ?_) (srF p n u + 2) 0 (u : Int) u (csN p (srF p n) u) (by omega) (by omega) (fun _ => ⟨rfl, rfl⟩) rfl
      refine j_iinc 58 (lv' := [(0, _), (1, _), (2, _), (3, _)]) dX0_countSizes_55 rfl rfl ⟨rfl, rfl⟩ ?_
      refine j_goto 10 dX0_countSizes_58 ?_
      refine j_take 2 ?_
      exact ih (u + 1) (by omega) (by omega)

set_option maxRecDepth 100000 in
set_option maxHeartbeats 4000000 in
theorem c_X0_countSizes (E : jD) (y0 y1 y2 y3 y4 y5 y6 y8 : Nat) (n : Nat) (pa de : Nat → Int32) (sz : Nat → Int32) (p : Nat → Int) (hn : n ≤ 24) (hpk : ∀ k, k < n → (pa k).toInt = p k) (hp : inT p n) (hde : ∀ k, k < n → de k = iI (srF p n k : Nat)) (hsr : ∀ k, k < n → srF p n k < n) : MC E Y_X0_countSizes [.ref y0] [(y0, jO 0 [.ref y1, .ref y2, .ref y3, .ref y4, .ref y5, .ref y6, .ref y8, .int (iI (n : Int))]), (y1, jA E 24 pa), (y2, jA E 24 de), (y3, jA E 24 sz)] (fun r N0 => ∃ sz2, r = none ∧ N0 = [(y0, jO 0 [.ref y1, .ref y2, .ref y3, .ref y4, .ref y5, .ref y6, .ref y8, .int (iI (n : Int))]), (y1, jA E 24 pa), (y2, jA E 24 de), (y3, jA E 24 sz2)] ∧ ∀ k, k < n → sz2 k = iI (csN p (srF p n) n k : Nat)) := by
  refine MC.of (by decide) rfl rfl ?_
  refine j_aload_0 1 dX0_countSizes_0 rfl ?_
  refine j_get 4 0 gf_X0_18 dX0_countSizes_1 rfl rfl ?_
  refine j_iconst 5 dX0_countSizes_4 ?_
  refine j_callS 8 Y_J7_fill_53178 [3] [_, _] (c_J7_fill_53178 E _ _ _ _ (by decide)) m_J7_fill_53178 wml_X0_75 dX0_countSizes_5 rfl rfl rfl rfl rfl rfl (fun r N h => by obtain ⟨rfl, rfl⟩ := h; rfl) (fun r N h => ?_)
  obtain ⟨rfl, rfl⟩ := h
  refine j_iconst 9 dX0_countSizes_8 ?_
  refine j_istore_1 10 (lv' := [(0, _), (1, _)]) dX0_countSizes_9 rfl ⟨rfl, rfl⟩ ?_
  refine j_ext 3 (cI (csN p (srF p n) 0)) rfl (fun j hj => by unfold fa; rw [if_pos hj]; rfl) ?_
  exact lp_countSizes E y0 y1 y2 y3 y4 y5 y6 y8 n pa de p hn hpk hp hde hsr (n + 1) 0 (by omega) (by omega)

set_option maxRecDepth 100000 in
set_option maxHeartbeats 4000000 in
theorem lp_goTour (E : jD) (y0 y1 y2 y3 y4 y5 y6 y7 y8 y9 y10 y11 y12 y13 y14 : Nat) (n : Nat) (pa de sz fi mt : Nat → Int32) (md : Int) (mi : Nat → Int32) (tw tb tn : Int) (tf tsh : Nat → Int32) (tmm : Int) (tws : Nat → Int64) (tpl : Nat → Int32) (p : Nat → Int) (hn : 1 ≤ n ∧ n ≤ 24) (hpk : ∀ k, k < n → (pa k).toInt = p k) (hp : inT p n) (hde : ∀ k, k < n → de k = iI (srF p n k : Nat)) (ht : tourOK p n (roF p (n - 1) 0)) : ∀ (d : Nat) (k : Nat), 2 * n - 1 - k < d → (k ≤ 2 * n - 1) → J E Y_X0_goTour (jZm E Y_X0_goTour (fun r N0 => ∃ fi2 mt2 md2 mi2 tw2 tb2 tf2 tsh2 tmm2 tws2 tpl2, r = none ∧ N0 = [(y0, jO 0 [.ref y1, .ref y2, .ref y3, .ref y4, .ref y5, .ref y6, .ref y8, .int (iI (n : Int))]), (y1, jA E 24 pa), (y2, jA E 24 de), (y3, jA E 24 sz), (y4, jA E 24 fi2), (y5, jA E 47 mt2), (y6, jO 4 [.ref y7, .int (iI md2)]), (y7, jA E 48 mi2), (y8, jO 3 [.ref y9, .ref y11, .ref y12, .ref y14, .int (iI tw2), .int (iI tb2)]), (y9, jO 4 [.ref y10, .int (iI ((2 * n - 1 : Nat) : Int))]), (y10, jA E 48 tf2), (y11, jA E 48 tsh2), (y12, jO 5 [.ref y13, .int (iI tmm2)]), (y13, jL E 64 tws2), (y14, jA E 6 tpl2)] ∧ (∀ v, v < n → fi2 v = iI (fxF p n (roF p (n - 1) 0) v (2 * n - 1))) ∧ (∀ j, j < 2 * n - 1 → mt2 j = iI (tS p n (roF p (n - 1) 0) j).1) ∧ (∀ j, j < 2 * n - 1 → tf2 j = iI (srF p n (tS p n (roF p (n - 1) 0) j).1.toNat : Nat)))) 0 0 35 [(0, .ref y0), (1, .int (iI ((2 * n - 1 : Nat) : Int))), (2, .int (iI (tS p n (roF p (n - 1) 0) k).1)), (3, .int (iI (tS p n (roF p (n - 1) 0) k).2)), (4, .int (iI (k : Int)))] [] [(y0, jO 0 [.ref y1, .ref y2, .ref y3, .ref y4, .ref y5, .ref y6, .ref y8, .int (iI (n : Int))]), (y1, jA E 24 pa), (y2, jA E 24 de), (y3, jA E 24 sz), (y4, jA E 24 (fxA p n (roF p (n - 1) 0) k)), (y5, jA E 47 (wrU (fun j => (tS p n (roF p (n - 1) 0) j).1) mt k)), (y6, jO 4 [.ref y7, .int (iI ((2 * n - 1 : Nat) : Int))]), (y7, jA E 48 (wrU (fun j => ((srF p n (tS p n (roF p (n - 1) 0) j).1.toNat : Nat) : Int)) (fa (iI 0) 48 mi) k)), (y8, jO 3 [.ref y9, .ref y11, .ref y12, .ref y14, .int (iI tw), .int (iI tb)]), (y9, jO 4 [.ref y10, .int (iI tn)]), (y10, jA E 48 tf), (y11, jA E 48 tsh), (y12, jO 5 [.ref y13, .int (iI tmm)]), (y13, jL E 64 tws), (y14, jA E 6 tpl)] := by
  intro d
  induction d with
  | zero => intros; omega
  | succ d ih =>
    intro k hd hk
    refine j_iload 37 dX0_goTour_35 rfl ?_
    refine j_iload_1 38 dX0_goTour_37 rfl ?_
    refine j_icmp_ge 138 41 dX0_goTour_38 (by first | with_reducible exact iI_rng _ | with_reducible exact bI_r _ | exact ⟨by omega, by omega⟩) (by first | with_reducible exact iI_rng _ | with_reducible exact bI_r _ | exact ⟨by omega, by omega⟩) (fun h38 => ?_) (fun h38 => ?_)
    · have e : k = 2 * n - 1 := by omega
      subst e
      refine j_aload_0 139 dX0_goTour_138 rfl ?_
      refine j_get 142 0 gf_X0_37 dX0_goTour_139 rfl rfl ?_
      refine j_aload_0 143 dX0_goTour_142 rfl ?_
      refine j_get 146 0 gf_X0_30 dX0_goTour_143 rfl rfl ?_
      refine j_iconst 147 dX0_goTour_146 ?_
      refine j_callV 150 Y_X3_becomeOver [8, 9, 10, 11, 12, 13, 14, 6, 7] [_, _] (c_X3_becomeOver E _ _ _ _ _ _ _ _ _ _ _ _ _ _ _ _ _ _ 4 _ (by decide) (by omega)) m_X3_becomeOver wml_X0_93 dX0_goTour_147 0 rfl rfl rfl rfl rfl rfl rfl rfl rfl (fun r N h => by obtain ⟨_, rfl, rfl⟩ := h; rfl) (fun r N h => ?_)
      obtain ⟨pl2, rfl, rfl⟩ := h
      refine j_eqM (M' := [(y0, jO 0 [.ref y1, .ref y2, .ref y3, .ref y4, .ref y5, .ref y6, .ref y8, .int (iI (n : Int))]), (y1, jA E 24 pa), (y2, jA E 24 de), (y3, jA E 24 sz), (y4, jA E 24 (fxA p n (roF p (n - 1) 0) (2 * n - 1))), (y5, jA E 47 (wrU (fun j => (tS p n (roF p (n - 1) 0) j).1) mt (2 * n - 1))), (y6, jO 4 [.ref y7, .int (iI ((2 * n - 1 : Nat) : Int))]), (y7, jA E 48 (wrU (fun j => ((srF p n (tS p n (roF p (n - 1) 0) j).1.toNat : Nat) : Int)) (fa (iI 0) 48 mi) (2 * n - 1))), (y8, jO 3 [.ref y9, .ref y11, .ref y12, .ref y14, .int (iI ((4 : Nat) : Int)), .int (iI ((nB (2 * n - 1) 4 : Nat) : Int))]), (y9, jO 4 [.ref y10, .int (iI ((2 * n - 1 : Nat) : Int))]), (y10, jA E 48 (va_cpy (wrU (fun j => ((srF p n (tS p n (roF p (n - 1) 0) j).1.toNat : Nat) : Int)) (fa (iI 0) 48 mi) (2 * n - 1)) tf 0 0 48)), (y11, jA E 48 (shU tsh (tI (va_cpy (wrU (fun j => ((srF p n (tS p n (roF p (n - 1) 0) j).1.toNat : Nat) : Int)) (fa (iI 0) 48 mi) (2 * n - 1)) tf 0 0 48)) (2 * n - 1) 4 (nB (2 * n - 1) 4))), (y12, jO 5 [.ref y13, .int (iI (inB (tI (va_cpy (wrU (fun j => ((srF p n (tS p n (roF p (n - 1) 0) j).1.toNat : Nat) : Int)) (fa (iI 0) 48 mi) (2 * n - 1)) tf 0 0 48)) (2 * n - 1) 4 (fa 0 64 tws) (nB (2 * n - 1) 4)).2)]), (y13, jL E 64 (inB (tI (va_cpy (wrU (fun j => ((srF p n (tS p n (roF p (n - 1) 0) j).1.toNat : Nat) : Int)) (fa (iI 0) 48 mi) (2 * n - 1)) tf 0 0 48)) (2 * n - 1) 4 (fa 0 64 tws) (nB (2 * n - 1) 4)).1), (y14, jA E 6 pl2)]) rfl ?_
      exact j_vret dX0_goTour_150 rfl rfl ⟨(fxA p n (roF p (n - 1) 0) (2 * n - 1)), (wrU (fun j => (tS p n (roF p (n - 1) 0) j).1) mt (2 * n - 1)), _, (wrU (fun j => ((srF p n (tS p n (roF p (n - 1) 0) j).1.toNat : Nat) : Int)) (fa (iI 0) 48 mi) (2 * n - 1)), _, _, (va_cpy (wrU (fun j => ((srF p n (tS p n (roF p (n - 1) 0) j).1.toNat : Nat) : Int)) (fa (iI 0) 48 mi) (2 * n - 1)) tf 0 0 48), (shU tsh (tI (va_cpy (wrU (fun j => ((srF p n (tS p n (roF p (n - 1) 0) j).1.toNat : Nat) : Int)) (fa (iI 0) 48 mi) (2 * n - 1)) tf 0 0 48)) (2 * n - 1) 4 (nB (2 * n - 1) 4)), (inB (tI (va_cpy (wrU (fun j => ((srF p n (tS p n (roF p (n - 1) 0) j).1.toNat : Nat) : Int)) (fa (iI 0) 48 mi) (2 * n - 1)) tf 0 0 48)) (2 * n - 1) 4 (fa 0 64 tws) (nB (2 * n - 1) 4)).2, (inB (tI (va_cpy (wrU (fun j => ((srF p n (tS p n (roF p (n - 1) 0) j).1.toNat : Nat) : Int)) (fa (iI 0) 48 mi) (2 * n - 1)) tf 0 0 48)) (2 * n - 1) 4 (fa 0 64 tws) (nB (2 * n - 1) 4)).1, pl2, rfl, rfl, fun v hv => rfl, fun j hj => wrU_in hj, fun j hj => by rw [pk_cpy_in (by omega) (by omega), Nat.zero_add, Nat.sub_zero]; exact wrU_in hj⟩
    · obtain ⟨⟨h1, h2⟩, h3, h4⟩ := ht k (by omega)
      obtain ⟨a, ha⟩ : ∃ a : Nat, (tS p n (roF p (n - 1) 0) k).1 = (a : Int) := ⟨(tS p n (roF p (n - 1) 0) k).1.toNat, by omega⟩
      have ha2 : a < n := by omega
      have hfx := fxF_in p n (roF p (n - 1) 0) a k
      have hso := sbF_in p (tS p n (roF p (n - 1) 0) k).1 (n - ((tS p n (roF p (n - 1) 0) k).2 + 1).toNat) ((tS p n (roF p (n - 1) 0) k).2 + 1).toNat
      have hso2 : soF p n (tS p n (roF p (n - 1) 0) k).1 (tS p n (roF p (n - 1) 0) k).2 ≤ n := by unfold soF; omega
      have hnx : tS p n (roF p (n - 1) 0) (k + 1) = if soF p n (tS p n (roF p (n - 1) 0) k).1 (tS p n (roF p (n - 1) 0) k).2 < n then (((soF p n (tS p n (roF p (n - 1) 0) k).1 (tS p n (roF p (n - 1) 0) k).2 : Nat) : Int), -1) else (p (tS p n (roF p (n - 1) 0) k).1.toNat, (tS p n (roF p (n - 1) 0) k).1) := rfl
      refine j_iload_2 42 dX0_goTour_41 rfl ?_
      refine j_iconst 43 dX0_goTour_42 ?_
      refine j_icmp_eq 138 46 dX0_goTour_43 (by first | with_reducible exact iI_rng _ | with_reducible exact bI_r _ | exact ⟨by omega, by omega⟩) (by first | with_reducible exact iI_rng _ | with_reducible exact bI_r _ | exact ⟨by omega, by omega⟩) (fun h43 => ?_) (fun h43 => ?_)
      · omega
      · refine j_aload_0 47 dX0_goTour_46 rfl ?_
        refine j_get 50 0 gf_X0_24 dX0_goTour_47 rfl rfl ?_
        refine j_iload 52 dX0_goTour_50 rfl ?_
        refine j_iload_2 53 dX0_goTour_52 rfl ?_
        refine j_iast 54 5 _ dX0_goTour_53 rfl rfl rfl (by omega) ?_
        refine j_eqM (M' := [(y0, jO 0 [.ref y1, .ref y2, .ref y3, .ref y4, .ref y5, .ref y6, .ref y8, .int (iI (n : Int))]), (y1, jA E 24 pa), (y2, jA E 24 de), (y3, jA E 24 sz), (y4, jA E 24 (fxA p n (roF p (n - 1) 0) k)), (y5, jA E 47 (wrU (fun j => (tS p n (roF p (n - 1) 0) j).1) mt (k + 1))), (y6, jO 4 [.ref y7, .int (iI ((2 * n - 1 : Nat) : Int))]), (y7, jA E 48 (wrU (fun j => ((srF p n (tS p n (roF p (n - 1) 0) j).1.toNat : Nat) : Int)) (fa (iI 0) 48 mi) k)), (y8, jO 3 [.ref y9, .ref y11, .ref y12, .ref y14, .int (iI tw), .int (iI tb)]), (y9, jO 4 [.ref y10, .int (iI tn)]), (y10, jA E 48 tf), (y11, jA E 48 tsh), (y12, jO 5 [.ref y13, .int (iI tmm)]), (y13, jL E 64 tws), (y14, jA E 6 tpl)]) (by rw [← wrU_s (fun j => (tS p n (roF p (n - 1) 0) j).1)]; rfl) ?_
        refine j_aload_0 55 dX0_goTour_54 rfl ?_
        refine j_get 58 0 gf_X0_30 dX0_goTour_55 rfl rfl ?_
        refine j_get 61 6 gf_X0_48 dX0_goTour_58 rfl rfl ?_
        refine j_iload 63 dX0_goTour_61 rfl ?_
        refine j_aload_0 64 dX0_goTour_63 rfl ?_
        refine j_get 67 0 gf_X0_15 dX0_goTour_64 rfl rfl ?_
        refine j_iload_2 68 dX0_goTour_67 rfl ?_
        refine j_ialdw 69 2 (a) (((srF p n (tS p n (roF p (n - 1) 0) k).1.toNat : Nat) : Int)) dX0_goTour_68 rfl rfl ha (by omega) (by rw [hde a ha2, ha]; rfl) ?_
        refine j_iast 70 7 _ dX0_goTour_69 rfl rfl rfl (by omega) ?_
        refine j_eqM (M' := [(y0, jO 0 [.ref y1, .ref y2, .ref y3, .ref y4, .ref y5, .ref y6, .ref y8, .int (iI (n : Int))]), (y1, jA E 24 pa), (y2, jA E 24 de), (y3, jA E 24 sz), (y4, jA E 24 (fxA p n (roF p (n - 1) 0) k)), (y5, jA E 47 (wrU (fun j => (tS p n (roF p (n - 1) 0) j).1) mt (k + 1))), (y6, jO 4 [.ref y7, .int (iI ((2 * n - 1 : Nat) : Int))]), (y7, jA E 48 (wrU (fun j => ((srF p n (tS p n (roF p (n - 1) 0) j).1.toNat : Nat) : Int)) (fa (iI 0) 48 mi) (k + 1))), (y8, jO 3 [.ref y9, .ref y11, .ref y12, .ref y14, .int (iI tw), .int (iI tb)]), (y9, jO 4 [.ref y10, .int (iI tn)]), (y10, jA E 48 tf), (y11, jA E 48 tsh), (y12, jO 5 [.ref y13, .int (iI tmm)]), (y13, jL E 64 tws), (y14, jA E 6 tpl)]) (by rw [← wrU_s (fun j => ((srF p n (tS p n (roF p (n - 1) 0) j).1.toNat : Nat) : Int))]; rfl) ?_
        refine j_aload_0 71 dX0_goTour_70 rfl ?_
        refine j_get 74 0 gf_X0_21 dX0_goTour_71 rfl rfl ?_
        refine j_iload_2 75 dX0_goTour_74 rfl ?_
        refine j_ialdw 76 4 (a) (fxF p n (roF p (n - 1) 0) a k) dX0_goTour_75 rfl rfl ha (by omega) rfl ?_
        refine j_iconst 77 dX0_goTour_76 ?_
        refine j_icmp_ne 88 80 dX0_goTour_77 (by first | with_reducible exact iI_rng _ | with_reducible exact bI_r _ | exact ⟨by omega, by omega⟩) (by first | with_reducible exact iI_rng _ | with_reducible exact bI_r _ | exact ⟨by omega, by omega⟩) (fun h77 => ?_) (fun h77 => ?_)
        · have hq : ¬ fxF p n (roF p (n - 1) 0) a k = -1 := h77
          rw [fxA_n ha hq]
          refine j_aload_0 89 dX0_goTour_88 rfl ?_
          refine j_iload_2 90 dX0_goTour_89 rfl ?_
          refine j_iload_3 91 dX0_goTour_90 rfl ?_
          refine j_callVi 94 Y_X0_sonBehind [0, 1] [_, _] (c_X0_sonBehind E _ _ _ _ _ _ _ _ _ _ p _ _ hn hpk (by exact ⟨by omega, by omega⟩) ⟨h3, h4⟩) m_X0_sonBehind wml_X0_89 dX0_goTour_91 0 rfl rfl rfl rfl rfl rfl rfl rfl rfl rfl ?_
          refine j_istore 96 (lv' := [(0, _), (1, _), (2, _), (3, _), (4, _), (5, _)]) dX0_goTour_94 rfl ⟨rfl, rfl⟩ ?_
          refine j_iload 98 dX0_goTour_96 rfl ?_
          refine j_aload_0 99 dX0_goTour_98 rfl ?_
          refine j_get 102 0 gf_X0_41 dX0_goTour_99 rfl rfl ?_
          refine j_icmp_ge 109 105 dX0_goTour_102 (by first | with_reducible exact iI_rng _ | with_reducible exact bI_r _ | exact ⟨by omega, by omega⟩) (by first | with_reducible exact iI_rng _ | with_reducible exact bI_r _ | exact ⟨by omega, by omega⟩) (fun h102 => ?_) (fun h102 => ?_)
          · rw [if_neg (by omega)] at hnx
            refine j_iload_2 110 dX0_goTour_109 rfl ?_
            refine j_istore_3 111 (lv' := [(0, _), (1, _), (2, _), (3, _), (4, _), (5, _)]) dX0_goTour_110 rfl ⟨rfl, rfl⟩ ?_
            refine j_iload 113 dX0_goTour_111 rfl ?_
            refine j_aload_0 114 dX0_goTour_113 rfl ?_
            refine j_get 117 0 gf_X0_41 dX0_goTour_114 rfl rfl ?_
            refine j_icmp_ge 125 120 dX0_goTour_117 (by first | with_reducible exact iI_rng _ | with_reducible exact bI_r _ | exact ⟨by omega, by omega⟩) (by first | with_reducible exact iI_rng _ | with_reducible exact bI_r _ | exact ⟨by omega, by omega⟩) (fun h117 => ?_) (fun h117 => ?_)
            · refine j_aload_0 126 dX0_goTour_125 rfl ?_
              refine j_get 129 0 gf_X0_9 dX0_goTour_126 rfl rfl ?_
              refine j_iload_2 130 dX0_goTour_129 rfl ?_
              refine j_ialdw 131 1 (a) (p (tS p n (roF p (n - 1) 0) k).1.toNat) dX0_goTour_130 rfl rfl ha (by omega) (by rw [← iI_x (pa a), hpk a ha2, ha]; rfl) ?_
              refine j_istore_2 132 (lv' := [(0, _), (1, _), (2, _), (3, _), (4, _), (5, _)]) dX0_goTour_131 rfl ⟨rfl, rfl⟩ ?_
              refine j_iinc 135 (lv' := [(0, _), (1, _), (2, _), (3, _), (4, _), (5, _)]) dX0_goTour_132 rfl rfl ⟨rfl, rfl⟩ ?_
              refine j_goto 35 dX0_goTour_135 ?_
              first | (exfalso; omega) | (refine j_take 5 ?_; have h := ih (k + 1) (by omega) (by omega); rw [hnx] at h; exact h)
            · refine j_iload 122 dX0_goTour_120 rfl ?_
              refine j_goto 131 dX0_goTour_122 ?_
              refine j_istore_2 132 (lv' := [(0, _), (1, _), (2, _), (3, _), (4, _), (5, _)]) dX0_goTour_131 rfl ⟨rfl, rfl⟩ ?_
              refine j_iinc 135 (lv' := [(0, _), (1, _), (2, _), (3, _), (4, _), (5, _)]) dX0_goTour_132 rfl rfl ⟨rfl, rfl⟩ ?_
              refine j_goto 35 dX0_goTour_135 ?_
              first | (exfalso; omega) | (refine j_take 5 ?_; have h := ih (k + 1) (by omega) (by omega); rw [hnx] at h; exact h)
          · rw [if_pos (by omega)] at hnx
            refine j_iconst 106 dX0_goTour_105 ?_
            refine j_goto 110 dX0_goTour_106 ?_
            refine j_istore_3 111 (lv' := [(0, _), (1, _), (2, _), (3, _), (4, _), (5, _)]) dX0_goTour_110 rfl ⟨rfl, rfl⟩ ?_
            refine j_iload 113 dX0_goTour_111 rfl ?_
            refine j_aload_0 114 dX0_goTour_113 rfl ?_
            refine j_get 117 0 gf_X0_41 dX0_goTour_114 rfl rfl ?_
            refine j_icmp_ge 125 120 dX0_goTour_117 (by first | with_reducible exact iI_rng _ | with_reducible exact bI_r _ | exact ⟨by omega, by omega⟩) (by first | with_reducible exact iI_rng _ | with_reducible exact bI_r _ | exact ⟨by omega, by omega⟩) (fun h117 => ?_) (fun h117 => ?_)
            · refine j_aload_0 126 dX0_goTour_125 rfl ?_
              refine j_get 129 0 gf_X0_9 dX0_goTour_126 rfl rfl ?_
              refine j_iload_2 130 dX0_goTour_129 rfl ?_
              refine j_ialdw 131 1 (a) (p (tS p n (roF p (n - 1) 0) k).1.toNat) dX0_goTour_130 rfl rfl ha (by omega) (by rw [← iI_x (pa a), hpk a ha2, ha]; rfl) ?_
              refine j_istore_2 132 (lv' := [(0, _), (1, _), (2, _), (3, _), (4, _), (5, _)]) dX0_goTour_131 rfl ⟨rfl, rfl⟩ ?_
              refine j_iinc 135 (lv' := [(0, _), (1, _), (2, _), (3, _), (4, _), (5, _)]) dX0_goTour_132 rfl rfl ⟨rfl, rfl⟩ ?_
              refine j_goto 35 dX0_goTour_135 ?_
              first | (exfalso; omega) | (refine j_take 5 ?_; have h := ih (k + 1) (by omega) (by omega); rw [hnx] at h; exact h)
            · refine j_iload 122 dX0_goTour_120 rfl ?_
              refine j_goto 131 dX0_goTour_122 ?_
              refine j_istore_2 132 (lv' := [(0, _), (1, _), (2, _), (3, _), (4, _), (5, _)]) dX0_goTour_131 rfl ⟨rfl, rfl⟩ ?_
              refine j_iinc 135 (lv' := [(0, _), (1, _), (2, _), (3, _), (4, _), (5, _)]) dX0_goTour_132 rfl rfl ⟨rfl, rfl⟩ ?_
              refine j_goto 35 dX0_goTour_135 ?_
              first | (exfalso; omega) | (refine j_take 5 ?_; have h := ih (k + 1) (by omega) (by omega); rw [hnx] at h; exact h)
        · refine j_aload_0 81 dX0_goTour_80 rfl ?_
          refine j_get 84 0 gf_X0_21 dX0_goTour_81 rfl rfl ?_
          refine j_iload_2 85 dX0_goTour_84 rfl ?_
          refine j_iload 87 dX0_goTour_85 rfl ?_
          refine j_iast 88 4 (a) dX0_goTour_87 rfl rfl ha (by omega) ?_
          refine j_eqM (M' := [(y0, jO 0 [.ref y1, .ref y2, .ref y3, .ref y4, .ref y5, .ref y6, .ref y8, .int (iI (n : Int))]), (y1, jA E 24 pa), (y2, jA E 24 de), (y3, jA E 24 sz), (y4, jA E 24 (fxA p n (roF p (n - 1) 0) (k + 1))), (y5, jA E 47 (wrU (fun j => (tS p n (roF p (n - 1) 0) j).1) mt (k + 1))), (y6, jO 4 [.ref y7, .int (iI ((2 * n - 1 : Nat) : Int))]), (y7, jA E 48 (wrU (fun j => ((srF p n (tS p n (roF p (n - 1) 0) j).1.toNat : Nat) : Int)) (fa (iI 0) 48 mi) (k + 1))), (y8, jO 3 [.ref y9, .ref y11, .ref y12, .ref y14, .int (iI tw), .int (iI tb)]), (y9, jO 4 [.ref y10, .int (iI tn)]), (y10, jA E 48 tf), (y11, jA E 48 tsh), (y12, jO 5 [.ref y13, .int (iI tmm)]), (y13, jL E 64 tws), (y14, jA E 6 tpl)]) (by rw [← fxA_y ha h77]; rfl) ?_
          refine j_aload_0 89 dX0_goTour_88 rfl ?_
          refine j_iload_2 90 dX0_goTour_89 rfl ?_
          refine j_iload_3 91 dX0_goTour_90 rfl ?_
          refine j_callVi 94 Y_X0_sonBehind [0, 1] [_, _] (c_X0_sonBehind E _ _ _ _ _ _ _ _ _ _ p _ _ hn hpk (by exact ⟨by omega, by omega⟩) ⟨h3, h4⟩) m_X0_sonBehind wml_X0_89 dX0_goTour_91 0 rfl rfl rfl rfl rfl rfl rfl rfl rfl rfl ?_
          refine j_istore 96 (lv' := [(0, _), (1, _), (2, _), (3, _), (4, _), (5, _)]) dX0_goTour_94 rfl ⟨rfl, rfl⟩ ?_
          refine j_iload 98 dX0_goTour_96 rfl ?_
          refine j_aload_0 99 dX0_goTour_98 rfl ?_
          refine j_get 102 0 gf_X0_41 dX0_goTour_99 rfl rfl ?_
          refine j_icmp_ge 109 105 dX0_goTour_102 (by first | with_reducible exact iI_rng _ | with_reducible exact bI_r _ | exact ⟨by omega, by omega⟩) (by first | with_reducible exact iI_rng _ | with_reducible exact bI_r _ | exact ⟨by omega, by omega⟩) (fun h102 => ?_) (fun h102 => ?_)
          · rw [if_neg (by omega)] at hnx
            refine j_iload_2 110 dX0_goTour_109 rfl ?_
            refine j_istore_3 111 (lv' := [(0, _), (1, _), (2, _), (3, _), (4, _), (5, _)]) dX0_goTour_110 rfl ⟨rfl, rfl⟩ ?_
            refine j_iload 113 dX0_goTour_111 rfl ?_
            refine j_aload_0 114 dX0_goTour_113 rfl ?_
            refine j_get 117 0 gf_X0_41 dX0_goTour_114 rfl rfl ?_
            refine j_icmp_ge 125 120 dX0_goTour_117 (by first | with_reducible exact iI_rng _ | with_reducible exact bI_r _ | exact ⟨by omega, by omega⟩) (by first | with_reducible exact iI_rng _ | with_reducible exact bI_r _ | exact ⟨by omega, by omega⟩) (fun h117 => ?_) (fun h117 => ?_)
            · refine j_aload_0 126 dX0_goTour_125 rfl ?_
              refine j_get 129 0 gf_X0_9 dX0_goTour_126 rfl rfl ?_
              refine j_iload_2 130 dX0_goTour_129 rfl ?_
              refine j_ialdw 131 1 (a) (p (tS p n (roF p (n - 1) 0) k).1.toNat) dX0_goTour_130 rfl rfl ha (by omega) (by rw [← iI_x (pa a), hpk a ha2, ha]; rfl) ?_
              refine j_istore_2 132 (lv' := [(0, _), (1, _), (2, _), (3, _), (4, _), (5, _)]) dX0_goTour_131 rfl ⟨rfl, rfl⟩ ?_
              refine j_iinc 135 (lv' := [(0, _), (1, _), (2, _), (3, _), (4, _), (5, _)]) dX0_goTour_132 rfl rfl ⟨rfl, rfl⟩ ?_
              refine j_goto 35 dX0_goTour_135 ?_
              first | (exfalso; omega) | (refine j_take 5 ?_; have h := ih (k + 1) (by omega) (by omega); rw [hnx] at h; exact h)
            · refine j_iload 122 dX0_goTour_120 rfl ?_
              refine j_goto 131 dX0_goTour_122 ?_
              refine j_istore_2 132 (lv' := [(0, _), (1, _), (2, _), (3, _), (4, _), (5, _)]) dX0_goTour_131 rfl ⟨rfl, rfl⟩ ?_
              refine j_iinc 135 (lv' := [(0, _), (1, _), (2, _), (3, _), (4, _), (5, _)]) dX0_goTour_132 rfl rfl ⟨rfl, rfl⟩ ?_
              refine j_goto 35 dX0_goTour_135 ?_
              first | (exfalso; omega) | (refine j_take 5 ?_; have h := ih (k + 1) (by omega) (by omega); rw [hnx] at h; exact h)
          · rw [if_pos (by omega)] at hnx
            refine j_iconst 106 dX0_goTour_105 ?_
            refine j_goto 110 dX0_goTour_106 ?_
            refine j_istore_3 111 (lv' := [(0, _), (1, _), (2, _), (3, _), (4, _), (5, _)]) dX0_goTour_110 rfl ⟨rfl, rfl⟩ ?_
            refine j_iload 113 dX0_goTour_111 rfl ?_
            refine j_aload_0 114 dX0_goTour_113 rfl ?_
            refine j_get 117 0 gf_X0_41 dX0_goTour_114 rfl rfl ?_
            refine j_icmp_ge 125 120 dX0_goTour_117 (by first | with_reducible exact iI_rng _ | with_reducible exact bI_r _ | exact ⟨by omega, by omega⟩) (by first | with_reducible exact iI_rng _ | with_reducible exact bI_r _ | exact ⟨by omega, by omega⟩) (fun h117 => ?_) (fun h117 => ?_)
            · refine j_aload_0 126 dX0_goTour_125 rfl ?_
              refine j_get 129 0 gf_X0_9 dX0_goTour_126 rfl rfl ?_
              refine j_iload_2 130 dX0_goTour_129 rfl ?_
              refine j_ialdw 131 1 (a) (p (tS p n (roF p (n - 1) 0) k).1.toNat) dX0_goTour_130 rfl rfl ha (by omega) (by rw [← iI_x (pa a), hpk a ha2, ha]; rfl) ?_
              refine j_istore_2 132 (lv' := [(0, _), (1, _), (2, _), (3, _), (4, _), (5, _)]) dX0_goTour_131 rfl ⟨rfl, rfl⟩ ?_
              refine j_iinc 135 (lv' := [(0, _), (1, _), (2, _), (3, _), (4, _), (5, _)]) dX0_goTour_132 rfl rfl ⟨rfl, rfl⟩ ?_
              refine j_goto 35 dX0_goTour_135 ?_
              first | (exfalso; omega) | (refine j_take 5 ?_; have h := ih (k + 1) (by omega) (by omega); rw [hnx] at h; exact h)
            · refine j_iload 122 dX0_goTour_120 rfl ?_
              refine j_goto 131 dX0_goTour_122 ?_
              refine j_istore_2 132 (lv' := [(0, _), (1, _), (2, _), (3, _), (4, _), (5, _)]) dX0_goTour_131 rfl ⟨rfl, rfl⟩ ?_
              refine j_iinc 135 (lv' := [(0, _), (1, _), (2, _), (3, _), (4, _), (5, _)]) dX0_goTour_132 rfl rfl ⟨rfl, rfl⟩ ?_
              refine j_goto 35 dX0_goTour_135 ?_
              first | (exfalso; omega) | (refine j_take 5 ?_; have h := ih (k + 1) (by omega) (by omega); rw [hnx] at h; exact h)

set_option maxRecDepth 100000 in
set_option maxHeartbeats 4000000 in
theorem c_X0_goTour (E : jD) (y0 y1 y2 y3 y4 y5 y6 y7 y8 y9 y10 y11 y12 y13 y14 : Nat) (n : Nat) (pa de sz fi mt : Nat → Int32) (md : Int) (mi : Nat → Int32) (tw tb tn : Int) (tf tsh : Nat → Int32) (tmm : Int) (tws : Nat → Int64) (tpl : Nat → Int32) (p : Nat → Int) (hn : 1 ≤ n ∧ n ≤ 24) (hpk : ∀ k, k < n → (pa k).toInt = p k) (hp : inT p n) (hde : ∀ k, k < n → de k = iI (srF p n k : Nat)) (ht : tourOK p n (roF p (n - 1) 0)) : MC E Y_X0_goTour [.ref y0] [(y0, jO 0 [.ref y1, .ref y2, .ref y3, .ref y4, .ref y5, .ref y6, .ref y8, .int (iI (n : Int))]), (y1, jA E 24 pa), (y2, jA E 24 de), (y3, jA E 24 sz), (y4, jA E 24 fi), (y5, jA E 47 mt), (y6, jO 4 [.ref y7, .int (iI md)]), (y7, jA E 48 mi), (y8, jO 3 [.ref y9, .ref y11, .ref y12, .ref y14, .int (iI tw), .int (iI tb)]), (y9, jO 4 [.ref y10, .int (iI tn)]), (y10, jA E 48 tf), (y11, jA E 48 tsh), (y12, jO 5 [.ref y13, .int (iI tmm)]), (y13, jL E 64 tws), (y14, jA E 6 tpl)] (fun r N0 => ∃ fi2 mt2 md2 mi2 tw2 tb2 tf2 tsh2 tmm2 tws2 tpl2, r = none ∧ N0 = [(y0, jO 0 [.ref y1, .ref y2, .ref y3, .ref y4, .ref y5, .ref y6, .ref y8, .int (iI (n : Int))]), (y1, jA E 24 pa), (y2, jA E 24 de), (y3, jA E 24 sz), (y4, jA E 24 fi2), (y5, jA E 47 mt2), (y6, jO 4 [.ref y7, .int (iI md2)]), (y7, jA E 48 mi2), (y8, jO 3 [.ref y9, .ref y11, .ref y12, .ref y14, .int (iI tw2), .int (iI tb2)]), (y9, jO 4 [.ref y10, .int (iI ((2 * n - 1 : Nat) : Int))]), (y10, jA E 48 tf2), (y11, jA E 48 tsh2), (y12, jO 5 [.ref y13, .int (iI tmm2)]), (y13, jL E 64 tws2), (y14, jA E 6 tpl2)] ∧ (∀ v, v < n → fi2 v = iI (fxF p n (roF p (n - 1) 0) v (2 * n - 1))) ∧ (∀ j, j < 2 * n - 1 → mt2 j = iI (tS p n (roF p (n - 1) 0) j).1) ∧ (∀ j, j < 2 * n - 1 → tf2 j = iI (srF p n (tS p n (roF p (n - 1) 0) j).1.toNat : Nat))) := by
  refine MC.of (by decide) rfl rfl ?_
  refine j_aload_0 1 dX0_goTour_0 rfl ?_
  refine j_get 4 0 gf_X0_21 dX0_goTour_1 rfl rfl ?_
  refine j_iconst 5 dX0_goTour_4 ?_
  refine j_callS 8 Y_J7_fill_53178 [4] [_, _] (c_J7_fill_53178 E _ _ _ _ (by decide)) m_J7_fill_53178 wml_X0_75 dX0_goTour_5 rfl rfl rfl rfl rfl rfl (fun r N h => by obtain ⟨rfl, rfl⟩ := h; rfl) (fun r N h => ?_)
  obtain ⟨rfl, rfl⟩ := h
  refine j_eqM (M' := [(y0, jO 0 [.ref y1, .ref y2, .ref y3, .ref y4, .ref y5, .ref y6, .ref y8, .int (iI (n : Int))]), (y1, jA E 24 pa), (y2, jA E 24 de), (y3, jA E 24 sz), (y4, jA E 24 (fa (iI (-1)) 24 fi)), (y5, jA E 47 mt), (y6, jO 4 [.ref y7, .int (iI md)]), (y7, jA E 48 mi), (y8, jO 3 [.ref y9, .ref y11, .ref y12, .ref y14, .int (iI tw), .int (iI tb)]), (y9, jO 4 [.ref y10, .int (iI tn)]), (y10, jA E 48 tf), (y11, jA E 48 tsh), (y12, jO 5 [.ref y13, .int (iI tmm)]), (y13, jL E 64 tws), (y14, jA E 6 tpl)]) rfl ?_
  refine j_iconst 9 dX0_goTour_8 ?_
  refine j_aload_0 10 dX0_goTour_9 rfl ?_
  refine j_get 13 0 gf_X0_41 dX0_goTour_10 rfl rfl ?_
  refine j_imul 14 dX0_goTour_13 ?_
  refine j_iconst 15 dX0_goTour_14 ?_
  refine j_isub 16 dX0_goTour_15 ?_
  refine j_top ((2 * n - 1 : Nat) : Int) (congrArg iI (by omega)) ?_
  refine j_istore_1 17 (lv' := [(0, _), (1, _)]) dX0_goTour_16 rfl ⟨rfl, rfl⟩ ?_
  refine j_aload_0 18 dX0_goTour_17 rfl ?_
  refine j_callVi 21 Y_X0_root [0, 1] [] (c_X0_root E _ _ _ _ _ _ _ _ _ _ p hn hpk) m_X0_root wml_X0_81 dX0_goTour_18 0 rfl rfl rfl rfl rfl rfl rfl rfl rfl rfl ?_
  refine j_istore_2 22 (lv' := [(0, _), (1, _), (2, _)]) dX0_goTour_21 rfl ⟨rfl, rfl⟩ ?_
  refine j_iconst 23 dX0_goTour_22 ?_
  refine j_istore_3 24 (lv' := [(0, _), (1, _), (2, _), (3, _)]) dX0_goTour_23 rfl ⟨rfl, rfl⟩ ?_
  refine j_aload_0 25 dX0_goTour_24 rfl ?_
  refine j_get 28 0 gf_X0_30 dX0_goTour_25 rfl rfl ?_
  refine j_iload_1 29 dX0_goTour_28 rfl ?_
  refine j_callV 32 Y_X4_becomeZeros [6, 7] [_] (c_X4_becomeZeros E _ _ _ _ _) m_X4_becomeZeros wml_X0_85 dX0_goTour_29 0 rfl rfl rfl rfl rfl rfl rfl rfl rfl (fun r N h => by obtain ⟨rfl, rfl⟩ := h; rfl) (fun r N h => ?_)
  obtain ⟨rfl, rfl⟩ := h
  refine j_eqM (M' := [(y0, jO 0 [.ref y1, .ref y2, .ref y3, .ref y4, .ref y5, .ref y6, .ref y8, .int (iI (n : Int))]), (y1, jA E 24 pa), (y2, jA E 24 de), (y3, jA E 24 sz), (y4, jA E 24 (fa (iI (-1)) 24 fi)), (y5, jA E 47 mt), (y6, jO 4 [.ref y7, .int (iI ((2 * n - 1 : Nat) : Int))]), (y7, jA E 48 (fa (iI 0) 48 mi)), (y8, jO 3 [.ref y9, .ref y11, .ref y12, .ref y14, .int (iI tw), .int (iI tb)]), (y9, jO 4 [.ref y10, .int (iI tn)]), (y10, jA E 48 tf), (y11, jA E 48 tsh), (y12, jO 5 [.ref y13, .int (iI tmm)]), (y13, jL E 64 tws), (y14, jA E 6 tpl)]) rfl ?_
  refine j_iconst 33 dX0_goTour_32 ?_
  refine j_istore 35 (lv' := [(0, _), (1, _), (2, _), (3, _), (4, _)]) dX0_goTour_33 rfl ⟨rfl, rfl⟩ ?_
  refine j_ext 4 (fxA p n (roF p (n - 1) 0) 0) rfl (fun j hj => by unfold fa; rw [if_pos hj]; rfl) ?_
  refine j_eqM (M' := [(y0, jO 0 [.ref y1, .ref y2, .ref y3, .ref y4, .ref y5, .ref y6, .ref y8, .int (iI (n : Int))]), (y1, jA E 24 pa), (y2, jA E 24 de), (y3, jA E 24 sz), (y4, jA E 24 (fxA p n (roF p (n - 1) 0) 0)), (y5, jA E 47 (wrU (fun j => (tS p n (roF p (n - 1) 0) j).1) mt 0)), (y6, jO 4 [.ref y7, .int (iI ((2 * n - 1 : Nat) : Int))]), (y7, jA E 48 (wrU (fun j => ((srF p n (tS p n (roF p (n - 1) 0) j).1.toNat : Nat) : Int)) (fa (iI 0) 48 mi) 0)), (y8, jO 3 [.ref y9, .ref y11, .ref y12, .ref y14, .int (iI tw), .int (iI tb)]), (y9, jO 4 [.ref y10, .int (iI tn)]), (y10, jA E 48 tf), (y11, jA E 48 tsh), (y12, jO 5 [.ref y13, .int (iI tmm)]), (y13, jL E 64 tws), (y14, jA E 6 tpl)]) (by rw [wrU_0, wrU_0]; rfl) ?_
  exact lp_goTour E y0 y1 y2 y3 y4 y5 y6 y7 y8 y9 y10 y11 y12 y13 y14 n pa de sz fi mt md mi tw tb tn tf tsh tmm tws tpl p hn hpk hp hde ht (2 * n) 0 (by omega) (by omega)

set_option maxRecDepth 100000 in
set_option maxHeartbeats 4000000 in
theorem lp_becomeTold (E : jD) (y0 y1 y2 y3 y4 y5 y6 y7 y8 y9 y10 y11 y12 y13 y14 : Nat) (r0 r1 : Nat) (f : Nat → Int32) (nd : Int) (n : Nat) (pa de sz fi mt : Nat → Int32) (md : Int) (mi : Nat → Int32) (tw tb tn : Int) (tf tsh : Nat → Int32) (tmm : Int) (tws : Nat → Int64) (tpl : Nat → Int32) (p : Nat → Int) (hn : 1 ≤ n ∧ n ≤ 24) (hpk0 : ∀ k, k < n → (f k).toInt = p k) (hp : inT p n) (hsr : ∀ k, k < n → srF p n k < n) (ht : tourOK p n (roF p (n - 1) 0)) : ∀ (d : Nat) (k : Nat), n - k < d → (k ≤ n) → J E Y_X0_becomeTold (jZm E Y_X0_becomeTold (fun r N0 => ∃ pa2 de2 sz2 fi2 mt2 md2 mi2 tw2 tb2 tf2 tsh2 tmm2 tws2 tpl2, r = none ∧ N0 = [(y0, jO 0 [.ref y1, .ref y2, .ref y3, .ref y4, .ref y5, .ref y6, .ref y8, .int (iI (n : Int))]), (y1, jA E 24 pa2), (y2, jA E 24 de2), (y3, jA E 24 sz2), (y4, jA E 24 fi2), (y5, jA E 47 mt2), (y6, jO 4 [.ref y7, .int (iI md2)]), (y7, jA E 48 mi2), (y8, jO 3 [.ref y9, .ref y11, .ref y12, .ref y14, .int (iI tw2), .int (iI tb2)]), (y9, jO 4 [.ref y10, .int (iI ((2 * n - 1 : Nat) : Int))]), (y10, jA E 48 tf2), (y11, jA E 48 tsh2), (y12, jO 5 [.ref y13, .int (iI tmm2)]), (y13, jL E 64 tws2), (y14, jA E 6 tpl2), (r0, jO 4 [.ref r1, .int (iI (n : Int))]), (r1, jA E 48 f)] ∧ famOK p n pa2 de2 sz2 fi2 mt2 tf2)) 0 0 27 [(0, .ref y0), (1, .ref r0), (2, .int (iI (k : Int)))] [] [(y0, jO 0 [.ref y1, .ref y2, .ref y3, .ref y4, .ref y5, .ref y6, .ref y8, .int (iI (n : Int))]), (y1, jA E 24 (va_cpy f pa 0 0 n)), (y2, jA E 24 (wrU (fun j => ((srF p n j : Nat) : Int)) de k)), (y3, jA E 24 sz), (y4, jA E 24 fi), (y5, jA E 47 mt), (y6, jO 4 [.ref y7, .int (iI md)]), (y7, jA E 48 mi), (y8, jO 3 [.ref y9, .ref y11, .ref y12, .ref y14, .int (iI tw), .int (iI tb)]), (y9, jO 4 [.ref y10, .int (iI tn)]), (y10, jA E 48 tf), (y11, jA E 48 tsh), (y12, jO 5 [.ref y13, .int (iI tmm)]), (y13, jL E 64 tws), (y14, jA E 6 tpl), (r0, jO 4 [.ref r1, .int (iI (n : Int))]), (r1, jA E 48 f)] := by
  intro d
  induction d with
  | zero => intros; omega
  | succ d ih =>
    intro k hd hk
    have hpk : ∀ k, k < n → ((va_cpy f pa 0 0 n) k).toInt = p k := fun k hk => by rw [pk_cpy_in (by omega) (by omega), Nat.zero_add, Nat.sub_zero]; exact hpk0 k hk
    refine j_iload_2 28 dX0_becomeTold_27 rfl ?_
    refine j_aload_0 29 dX0_becomeTold_28 rfl ?_
    refine j_get 32 0 gf_X0_41 dX0_becomeTold_29 rfl rfl ?_
    refine j_icmp_ge 59 35 dX0_becomeTold_32 (by first | with_reducible exact iI_rng _ | with_reducible exact bI_r _ | exact ⟨by omega, by omega⟩) (by first | with_reducible exact iI_rng _ | with_reducible exact bI_r _ | exact ⟨by omega, by omega⟩) (fun h32 => ?_) (fun h32 => ?_)
    · have e : k = n := by omega
      subst e
      have hde : ∀ j, j < k → wrU (fun j => ((srF p k j : Nat) : Int)) de k j = iI (srF p k j : Nat) := fun j hj => wrU_in hj
      refine j_aload_0 60 dX0_becomeTold_59 rfl ?_
      refine j_callV 63 Y_X0_countSizes [0, 1, 2, 3] [] (c_X0_countSizes E _ _ _ _ _ _ _ _ _ _ _ _ p (by omega) hpk hp hde hsr) m_X0_countSizes wml_X0_69 dX0_becomeTold_60 0 rfl rfl rfl rfl rfl rfl rfl rfl rfl (fun r N h => by obtain ⟨_, rfl, rfl, _⟩ := h; rfl) (fun r N h => ?_)
      obtain ⟨sz2, rfl, rfl, hsz⟩ := h
      refine j_eqM (M' := [(y0, jO 0 [.ref y1, .ref y2, .ref y3, .ref y4, .ref y5, .ref y6, .ref y8, .int (iI (k : Int))]), (y1, jA E 24 (va_cpy f pa 0 0 k)), (y2, jA E 24 (wrU (fun j => ((srF p k j : Nat) : Int)) de k)), (y3, jA E 24 sz2), (y4, jA E 24 fi), (y5, jA E 47 mt), (y6, jO 4 [.ref y7, .int (iI md)]), (y7, jA E 48 mi), (y8, jO 3 [.ref y9, .ref y11, .ref y12, .ref y14, .int (iI tw), .int (iI tb)]), (y9, jO 4 [.ref y10, .int (iI tn)]), (y10, jA E 48 tf), (y11, jA E 48 tsh), (y12, jO 5 [.ref y13, .int (iI tmm)]), (y13, jL E 64 tws), (y14, jA E 6 tpl), (r0, jO 4 [.ref r1, .int (iI (k : Int))]), (r1, jA E 48 f)]) rfl ?_
      refine j_aload_0 64 dX0_becomeTold_63 rfl ?_
      refine j_callV 67 Y_X0_goTour [0, 1, 2, 3, 4, 5, 6, 7, 8, 9, 10, 11, 12, 13, 14] [] (c_X0_goTour E _ _ _ _ _ _ _ _ _ _ _ _ _ _ _ _ _ _ _ _ _ _ _ _ _ _ _ _ _ _ _ p hn hpk hp hde ht) m_X0_goTour wml_X0_72 dX0_becomeTold_64 0 rfl rfl rfl rfl rfl rfl rfl rfl rfl (fun r N h => by obtain ⟨_, _, _, _, _, _, _, _, _, _, _, rfl, rfl, _⟩ := h; rfl) (fun r N h => ?_)
      obtain ⟨fi2, mt2, md2, mi2, tw2, tb2, tf2, tsh2, tmm2, tws2, tpl2, rfl, rfl, hfi, hmt, htf⟩ := h
      refine j_eqM (M' := [(y0, jO 0 [.ref y1, .ref y2, .ref y3, .ref y4, .ref y5, .ref y6, .ref y8, .int (iI (k : Int))]), (y1, jA E 24 (va_cpy f pa 0 0 k)), (y2, jA E 24 (wrU (fun j => ((srF p k j : Nat) : Int)) de k)), (y3, jA E 24 sz2), (y4, jA E 24 fi2), (y5, jA E 47 mt2), (y6, jO 4 [.ref y7, .int (iI md2)]), (y7, jA E 48 mi2), (y8, jO 3 [.ref y9, .ref y11, .ref y12, .ref y14, .int (iI tw2), .int (iI tb2)]), (y9, jO 4 [.ref y10, .int (iI ((2 * k - 1 : Nat) : Int))]), (y10, jA E 48 tf2), (y11, jA E 48 tsh2), (y12, jO 5 [.ref y13, .int (iI tmm2)]), (y13, jL E 64 tws2), (y14, jA E 6 tpl2), (r0, jO 4 [.ref r1, .int (iI (k : Int))]), (r1, jA E 48 f)]) rfl ?_
      exact j_vret dX0_becomeTold_67 rfl rfl ⟨(va_cpy f pa 0 0 k), (wrU (fun j => ((srF p k j : Nat) : Int)) de k), sz2, fi2, mt2, md2, mi2, tw2, tb2, tf2, tsh2, tmm2, tws2, tpl2, rfl, rfl, hpk, hde, hsz, hfi, hmt, htf⟩
    · refine j_aload_0 36 dX0_becomeTold_35 rfl ?_
      refine j_get 39 0 gf_X0_15 dX0_becomeTold_36 rfl rfl ?_
      refine j_iload_2 40 dX0_becomeTold_39 rfl ?_
      refine j_aload_0 41 dX0_becomeTold_40 rfl ?_
      refine j_get 44 0 gf_X0_9 dX0_becomeTold_41 rfl rfl ?_
      refine j_iload_2 45 dX0_becomeTold_44 rfl ?_
      refine j_aload_0 46 dX0_becomeTold_45 rfl ?_
      refine j_get 49 0 gf_X0_41 dX0_becomeTold_46 rfl rfl ?_
      refine j_callSi 52 Y_X0_stepsToTheRoot [1] [_, _, _] (c_X0_stepsToTheRoot E _ _ _ p _ _ ⟨by omega, by omega⟩ hpk hp (by omega)) m_X0_stepsToTheRoot wml_X0_59 dX0_becomeTold_49 rfl rfl rfl rfl rfl rfl rfl ?_
      refine j_iast 53 2 _ dX0_becomeTold_52 rfl rfl rfl (by omega) ?_
      refine j_eqM (M' := [(y0, jO 0 [.ref y1, .ref y2, .ref y3, .ref y4, .ref y5, .ref y6, .ref y8, .int (iI (n : Int))]), (y1, jA E 24 (va_cpy f pa 0 0 n)), (y2, jA E 24 (wrU (fun j => ((srF p n j : Nat) : Int)) de (k + 1))), (y3, jA E 24 sz), (y4, jA E 24 fi), (y5, jA E 47 mt), (y6, jO 4 [.ref y7, .int (iI md)]), (y7, jA E 48 mi), (y8, jO 3 [.ref y9, .ref y11, .ref y12, .ref y14, .int (iI tw), .int (iI tb)]), (y9, jO 4 [.ref y10, .int (iI tn)]), (y10, jA E 48 tf), (y11, jA E 48 tsh), (y12, jO 5 [.ref y13, .int (iI tmm)]), (y13, jL E 64 tws), (y14, jA E 6 tpl), (r0, jO 4 [.ref r1, .int (iI (n : Int))]), (r1, jA E 48 f)]) (by rw [← wrU_s (fun j => ((srF p n j : Nat) : Int))]; rfl) ?_
      refine j_iinc 56 (lv' := [(0, _), (1, _), (2, _)]) dX0_becomeTold_53 rfl rfl ⟨rfl, rfl⟩ ?_
      refine j_goto 27 dX0_becomeTold_56 ?_
      exact ih (k + 1) (by omega) (by omega)

set_option maxRecDepth 100000 in
set_option maxHeartbeats 4000000 in
theorem c_X0_becomeTold (E : jD) (y0 y1 y2 y3 y4 y5 y6 y7 y8 y9 y10 y11 y12 y13 y14 : Nat) (r0 r1 : Nat) (f : Nat → Int32) (nd : Int) (n : Nat) (pa de sz fi mt : Nat → Int32) (md : Int) (mi : Nat → Int32) (tw tb tn : Int) (tf tsh : Nat → Int32) (tmm : Int) (tws : Nat → Int64) (tpl : Nat → Int32) (p : Nat → Int) (hn : 1 ≤ n ∧ n ≤ 24) (hpk0 : ∀ k, k < n → (f k).toInt = p k) (hp : inT p n) (hsr : ∀ k, k < n → srF p n k < n) (ht : tourOK p n (roF p (n - 1) 0)) : MC E Y_X0_becomeTold [.ref y0, .ref r0] [(y0, jO 0 [.ref y1, .ref y2, .ref y3, .ref y4, .ref y5, .ref y6, .ref y8, .int (iI nd)]), (y1, jA E 24 pa), (y2, jA E 24 de), (y3, jA E 24 sz), (y4, jA E 24 fi), (y5, jA E 47 mt), (y6, jO 4 [.ref y7, .int (iI md)]), (y7, jA E 48 mi), (y8, jO 3 [.ref y9, .ref y11, .ref y12, .ref y14, .int (iI tw), .int (iI tb)]), (y9, jO 4 [.ref y10, .int (iI tn)]), (y10, jA E 48 tf), (y11, jA E 48 tsh), (y12, jO 5 [.ref y13, .int (iI tmm)]), (y13, jL E 64 tws), (y14, jA E 6 tpl), (r0, jO 4 [.ref r1, .int (iI (n : Int))]), (r1, jA E 48 f)] (fun r N0 => ∃ pa2 de2 sz2 fi2 mt2 md2 mi2 tw2 tb2 tf2 tsh2 tmm2 tws2 tpl2, r = none ∧ N0 = [(y0, jO 0 [.ref y1, .ref y2, .ref y3, .ref y4, .ref y5, .ref y6, .ref y8, .int (iI (n : Int))]), (y1, jA E 24 pa2), (y2, jA E 24 de2), (y3, jA E 24 sz2), (y4, jA E 24 fi2), (y5, jA E 47 mt2), (y6, jO 4 [.ref y7, .int (iI md2)]), (y7, jA E 48 mi2), (y8, jO 3 [.ref y9, .ref y11, .ref y12, .ref y14, .int (iI tw2), .int (iI tb2)]), (y9, jO 4 [.ref y10, .int (iI ((2 * n - 1 : Nat) : Int))]), (y10, jA E 48 tf2), (y11, jA E 48 tsh2), (y12, jO 5 [.ref y13, .int (iI tmm2)]), (y13, jL E 64 tws2), (y14, jA E 6 tpl2), (r0, jO 4 [.ref r1, .int (iI (n : Int))]), (r1, jA E 48 f)] ∧ famOK p n pa2 de2 sz2 fi2 mt2 tf2) := by
  refine MC.of (by decide) rfl rfl ?_
  refine j_aload_0 1 dX0_becomeTold_0 rfl ?_
  refine j_aload_1 2 dX0_becomeTold_1 rfl ?_
  refine j_get 5 15 gf_X0_45 dX0_becomeTold_2 rfl rfl ?_
  refine j_put 8 0 pf_X0_41 dX0_becomeTold_5 rfl ⟨rfl, rfl, rfl⟩ ?_
  refine j_aload_1 9 dX0_becomeTold_8 rfl ?_
  refine j_get 12 15 gf_X0_48 dX0_becomeTold_9 rfl rfl ?_
  refine j_iconst 13 dX0_becomeTold_12 ?_
  refine j_aload_0 14 dX0_becomeTold_13 rfl ?_
  refine j_get 17 0 gf_X0_9 dX0_becomeTold_14 rfl rfl ?_
  refine j_iconst 18 dX0_becomeTold_17 ?_
  refine j_aload_0 19 dX0_becomeTold_18 rfl ?_
  refine j_get 22 0 gf_X0_41 dX0_becomeTold_19 rfl rfl ?_
  refine j_copy 25 16 1 0 0 n wml_X0_63 dX0_becomeTold_22 rfl rfl rfl rfl rfl rfl (by omega) (by omega) rfl ?_
  refine j_iconst 26 dX0_becomeTold_25 ?_
  refine j_istore_2 27 (lv' := [(0, _), (1, _), (2, _)]) dX0_becomeTold_26 rfl ⟨rfl, rfl⟩ ?_
  refine j_eqM (M' := [(y0, jO 0 [.ref y1, .ref y2, .ref y3, .ref y4, .ref y5, .ref y6, .ref y8, .int (iI (n : Int))]), (y1, jA E 24 (va_cpy f pa 0 0 n)), (y2, jA E 24 (wrU (fun j => ((srF p n j : Nat) : Int)) de 0)), (y3, jA E 24 sz), (y4, jA E 24 fi), (y5, jA E 47 mt), (y6, jO 4 [.ref y7, .int (iI md)]), (y7, jA E 48 mi), (y8, jO 3 [.ref y9, .ref y11, .ref y12, .ref y14, .int (iI tw), .int (iI tb)]), (y9, jO 4 [.ref y10, .int (iI tn)]), (y10, jA E 48 tf), (y11, jA E 48 tsh), (y12, jO 5 [.ref y13, .int (iI tmm)]), (y13, jL E 64 tws), (y14, jA E 6 tpl), (r0, jO 4 [.ref r1, .int (iI (n : Int))]), (r1, jA E 48 f)]) (by rw [wrU_0]; rfl) ?_
  exact lp_becomeTold E y0 y1 y2 y3 y4 y5 y6 y7 y8 y9 y10 y11 y12 y13 y14 r0 r1 f nd n pa de sz fi mt md mi tw tb tn tf tsh tmm tws tpl p hn hpk0 hp hsr ht (n + 1) 0 (by omega) (by omega)
