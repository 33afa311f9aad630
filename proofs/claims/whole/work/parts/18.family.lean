set_option maxRecDepth 100000 in
set_option maxHeartbeats 4000000 in
theorem lp_steps (E : jD) (a L : Nat) (f : Nat → Int32) (p : Nat → Int) (n : Nat) (hL : n ≤ L ∧ L ≤ 48) (hpk : ∀ k, k < n → (f k).toInt = p k) (hp : inT p n) (u : Nat) : ∀ (d : Nat) (s : Nat) (t : Nat), n - s < d → (s ≤ n) → (t < n) → (s + srF p (n - s) t = srF p n u) → J E Y_X0_stepsToTheRoot (jZm E Y_X0_stepsToTheRoot (fun r N0 => r = some (.int (iI ((srF p n u : Nat)))) ∧ N0 = [(a, jA E L f)])) 0 0 5 [(0, .ref a), (1, .int (iI (u : Int))), (2, .int (iI (n : Int))), (3, .int (iI (s : Int))), (4, .int (iI (t : Int)))] [] [(a, jA E L f)] := by
  intro d
  induction d with
  | zero => intros; omega
  | succ d ih =>
    intro s t hd hs ht he
    refine j_iload_3 6 dX0_stepsToTheRoot_5 rfl ?_
    refine j_iload_2 7 dX0_stepsToTheRoot_6 rfl ?_
    refine j_icmp_ge 30 10 dX0_stepsToTheRoot_7 (by first | with_reducible exact iI_rng _ | with_reducible exact bI_r _ | exact ⟨by omega, by omega⟩) (by first | with_reducible exact iI_rng _ | with_reducible exact bI_r _ | exact ⟨by omega, by omega⟩) (fun h7 => ?_) (fun h7 => ?_)
    · have e : s = n := by omega
      subst e
      rw [Nat.sub_self] at he
      refine j_iload_3 31 dX0_stepsToTheRoot_30 rfl ?_
      exact j_iret dX0_stepsToTheRoot_31 rfl rfl ⟨congrArg (fun z => some (Value.int (iI z))) (by rw [← he]; rfl), rfl⟩
    · obtain ⟨c, hc⟩ : ∃ c, n - s = c + 1 := ⟨n - s - 1, by omega⟩
      rw [hc] at he
      have hpt := hp t ht
      have hft := hpk t ht
      refine j_aload_0 11 dX0_stepsToTheRoot_10 rfl ?_
      refine j_iload 13 dX0_stepsToTheRoot_11 rfl ?_
      refine j_iald 14 0 _ dX0_stepsToTheRoot_13 rfl (Nat.ble_eq_true_of_le (by omega)) rfl (by omega) ?_
      refine j_iconst 15 dX0_stepsToTheRoot_14 ?_
      refine j_icmp_eq 30 18 dX0_stepsToTheRoot_15 (by first | with_reducible exact iI_rng _ | with_reducible exact bI_r _ | exact ⟨by omega, by omega⟩) (by first | with_reducible exact iI_rng _ | with_reducible exact bI_r _ | exact ⟨by omega, by omega⟩) (fun h15 => ?_) (fun h15 => ?_)
      · have e2 : srF p (c + 1) t = 0 := if_pos (by omega)
        rw [e2] at he
        refine j_iload_3 31 dX0_stepsToTheRoot_30 rfl ?_
        exact j_iret dX0_stepsToTheRoot_31 rfl rfl ⟨congrArg (fun z => some (Value.int (iI z))) (by rw [← he]; rfl), rfl⟩
      · have e2 : srF p (c + 1) t = srF p c (p t).toNat + 1 := if_neg (by omega)
        rw [e2] at he
        refine j_aload_0 19 dX0_stepsToTheRoot_18 rfl ?_
        refine j_iload 21 dX0_stepsToTheRoot_19 rfl ?_
        refine j_ialdw 22 0 _ (((p t).toNat : Int)) dX0_stepsToTheRoot_21 rfl (Nat.ble_eq_true_of_le (by omega)) rfl (by omega) (by rw [← iI_x (f t), hft]; exact congrArg iI (by omega)) ?_
        refine j_istore 24 (lv' := [(0, _), (1, _), (2, _), (3, _), (4, _)]) dX0_stepsToTheRoot_22 rfl ⟨rfl, rfl⟩ ?_
        refine j_iinc 27 (lv' := [(0, _), (1, _), (2, _), (3, _), (4, _)]) dX0_stepsToTheRoot_24 rfl rfl ⟨rfl, rfl⟩ ?_
        refine j_goto 5 dX0_stepsToTheRoot_27 ?_
        exact ih (s + 1) (p t).toNat (by omega) (by omega) (by omega) (by rw [show n - (s + 1) = c by omega]; omega)

set_option maxRecDepth 100000 in
set_option maxHeartbeats 4000000 in
theorem c_X0_stepsToTheRoot (E : jD) (a L : Nat) (f : Nat → Int32) (p : Nat → Int) (n : Nat) (u : Nat) (hL : n ≤ L ∧ L ≤ 48) (hpk : ∀ k, k < n → (f k).toInt = p k) (hp : inT p n) (hu : u < n) : MC E Y_X0_stepsToTheRoot [.ref a, .int (iI (u : Int)), .int (iI (n : Int))] [(a, jA E L f)] (fun r N0 => r = some (.int (iI ((srF p n u : Nat)))) ∧ N0 = [(a, jA E L f)]) := by
  refine MC.of (by decide) rfl rfl ?_
  refine j_iconst 1 dX0_stepsToTheRoot_0 ?_
  refine j_istore_3 2 (lv' := [(0, _), (1, _), (2, _), (3, _)]) dX0_stepsToTheRoot_1 rfl ⟨rfl, rfl⟩ ?_
  refine j_iload_1 3 dX0_stepsToTheRoot_2 rfl ?_
  refine j_istore 5 (lv' := [(0, _), (1, _), (2, _), (3, _), (4, _)]) dX0_stepsToTheRoot_3 rfl ⟨rfl, rfl⟩ ?_
  exact lp_steps E a L f p n hL hpk hp u (n + 1) 0 u (by omega) (by omega) hu (by rw [Nat.zero_add, Nat.sub_zero])

set_option maxRecDepth 100000 in
set_option maxHeartbeats 4000000 in
theorem lp_allCome (E : jD) (a b : Nat) (n : Nat) (f : Nat → Int32) (hn : n ≤ 48) (hp : inT (tI f) n) : ∀ (d : Nat) (k : Nat), n - k < d → (k ≤ n) → (∀ j, j < k → srF (tI f) n j < n) → J E Y_X0_allComeToTheRoot (jZm E Y_X0_allComeToTheRoot (fun r N0 => r = some (.int (iI (bI (∀ k, k < n → srF (tI f) n k < n)))) ∧ N0 = [(a, jO 4 [.ref b, .int (iI (n : Int))]), (b, jA E 48 f)])) 0 0 2 [(0, .ref a), (1, .int (iI (k : Int)))] [] [(a, jO 4 [.ref b, .int (iI (n : Int))]), (b, jA E 48 f)] := by
  intro d
  induction d with
  | zero => intros; omega
  | succ d ih =>
    intro k hd hk he
    refine j_iload_1 3 dX0_allComeToTheRoot_2 rfl ?_
    refine j_aload_0 4 dX0_allComeToTheRoot_3 rfl ?_
    refine j_get 7 0 gf_X0_45 dX0_allComeToTheRoot_4 rfl rfl ?_
    refine j_icmp_ge 37 10 dX0_allComeToTheRoot_7 (by first | with_reducible exact iI_rng _ | with_reducible exact bI_r _ | exact ⟨by omega, by omega⟩) (by first | with_reducible exact iI_rng _ | with_reducible exact bI_r _ | exact ⟨by omega, by omega⟩) (fun h7 => ?_) (fun h7 => ?_)
    · have e : k = n := by omega
      subst e
      refine j_iconst 38 dX0_allComeToTheRoot_37 ?_
      exact j_zret (by first | exact bI_n _ | decide +kernel) dX0_allComeToTheRoot_38 rfl rfl ⟨congrArg (fun z => some (Value.int (iI z))) ((bI_t he).symm), rfl⟩
    · have hsl := srF_le (tI f) n k
      refine j_aload_0 11 dX0_allComeToTheRoot_10 rfl ?_
      refine j_get 14 0 gf_X0_48 dX0_allComeToTheRoot_11 rfl rfl ?_
      refine j_iload_1 15 dX0_allComeToTheRoot_14 rfl ?_
      refine j_aload_0 16 dX0_allComeToTheRoot_15 rfl ?_
      refine j_get 19 0 gf_X0_45 dX0_allComeToTheRoot_16 rfl rfl ?_
      refine j_callSi 22 Y_X0_stepsToTheRoot [1] [_, _, _] (c_X0_stepsToTheRoot E _ _ _ (tI f) _ _ ⟨hn, by omega⟩ (fun _ _ => rfl) hp (by omega)) m_X0_stepsToTheRoot wml_X0_59 dX0_allComeToTheRoot_19 rfl rfl rfl rfl rfl rfl rfl ?_
      refine j_aload_0 23 dX0_allComeToTheRoot_22 rfl ?_
      refine j_get 26 0 gf_X0_45 dX0_allComeToTheRoot_23 rfl rfl ?_
      refine j_icmp_lt 31 29 dX0_allComeToTheRoot_26 (by first | with_reducible exact iI_rng _ | with_reducible exact bI_r _ | exact ⟨by omega, by omega⟩) (by first | with_reducible exact iI_rng _ | with_reducible exact bI_r _ | exact ⟨by omega, by omega⟩) (fun h26 => ?_) (fun h26 => ?_)
      · refine j_iinc 34 (lv' := [(0, _), (1, _)]) dX0_allComeToTheRoot_31 rfl rfl ⟨rfl, rfl⟩ ?_
        refine j_goto 2 dX0_allComeToTheRoot_34 ?_
        exact ih (k + 1) (by omega) (by omega) (fun j hj => by
          by_cases hjk : j = k
          · subst hjk; omega
          · exact he j (by omega))
      · refine j_iconst 30 dX0_allComeToTheRoot_29 ?_
        exact j_zret (by first | exact bI_n _ | decide +kernel) dX0_allComeToTheRoot_30 rfl rfl ⟨congrArg (fun z => some (Value.int (iI z))) ((bI_f (fun z => h26 (by have := z k (by omega); omega))).symm), rfl⟩

set_option maxRecDepth 100000 in
set_option maxHeartbeats 4000000 in
theorem c_X0_allComeToTheRoot (E : jD) (a b : Nat) (n : Nat) (f : Nat → Int32) (hn : n ≤ 48) (hp : inT (tI f) n) : MC E Y_X0_allComeToTheRoot [.ref a] [(a, jO 4 [.ref b, .int (iI (n : Int))]), (b, jA E 48 f)] (fun r N0 => r = some (.int (iI (bI (∀ k, k < n → srF (tI f) n k < n)))) ∧ N0 = [(a, jO 4 [.ref b, .int (iI (n : Int))]), (b, jA E 48 f)]) := by
  refine MC.of (by decide) rfl rfl ?_
  refine j_iconst 1 dX0_allComeToTheRoot_0 ?_
  refine j_istore_1 2 (lv' := [(0, _), (1, _)]) dX0_allComeToTheRoot_1 rfl ⟨rfl, rfl⟩ ?_
  exact lp_allCome E a b n f hn hp (n + 1) 0 (by omega) (by omega) (fun j hj => by omega)

noncomputable def toB (p : Nat → Int) (n : Nat) : Int := @bI (toldP p n) (Classical.propDecidable _)
theorem toB_t {p : Nat → Int} {n : Nat} (h : toldP p n) : toB p n = 1 := if_pos h
theorem toB_f {p : Nat → Int} {n : Nat} (h : ¬ toldP p n) : toB p n = 0 := if_neg h

set_option maxRecDepth 100000 in
set_option maxHeartbeats 4000000 in
theorem lp_isTold (E : jD) (a b : Nat) (n : Nat) (f : Nat → Int32) (hn : n ≤ 48) : ∀ (d : Nat) (k : Nat), n - k < d → (k ≤ n) → (∀ j, j < k → (tI f) j = -1 ∨ (0 ≤ (tI f) j ∧ (tI f) j < n)) → J E Y_X0_isTold (jZm E Y_X0_isTold (fun r N0 => r = some (.int (iI (toB (tI f) n))) ∧ N0 = [(a, jO 4 [.ref b, .int (iI (n : Int))]), (b, jA E 48 f)])) 0 0 4 [(0, .ref a), (1, .int (iI ((rcF (tI f) k : Nat) : Int))), (2, .int (iI (k : Int)))] [] [(a, jO 4 [.ref b, .int (iI (n : Int))]), (b, jA E 48 f)] := by
  intro d
  induction d with
  | zero => intros; omega
  | succ d ih =>
    intro k hd hk he
    have hrc := rcF_le (tI f) k
    refine j_iload_2 5 dX0_isTold_4 rfl ?_
    refine j_aload_0 6 dX0_isTold_5 rfl ?_
    refine j_get 9 0 gf_X0_45 dX0_isTold_6 rfl rfl ?_
    refine j_icmp_ge 49 12 dX0_isTold_9 (by first | with_reducible exact iI_rng _ | with_reducible exact bI_r _ | exact ⟨by omega, by omega⟩) (by first | with_reducible exact iI_rng _ | with_reducible exact bI_r _ | exact ⟨by omega, by omega⟩) (fun h9 => ?_) (fun h9 => ?_)
    · have e : k = n := by omega
      subst e
      refine j_iload_1 50 dX0_isTold_49 rfl ?_
      refine j_iconst 51 dX0_isTold_50 ?_
      refine j_icmp_ne 65 54 dX0_isTold_51 (by first | with_reducible exact iI_rng _ | with_reducible exact bI_r _ | exact ⟨by omega, by omega⟩) (by first | with_reducible exact iI_rng _ | with_reducible exact bI_r _ | exact ⟨by omega, by omega⟩) (fun h51 => ?_) (fun h51 => ?_)
      · refine j_iconst 66 dX0_isTold_65 ?_
        exact j_zret (by decide +kernel) dX0_isTold_66 rfl rfl ⟨congrArg (fun z => some (Value.int (iI z))) ((toB_f (fun z => h51 (by rw [z.2.1]; rfl))).symm), rfl⟩
      · refine j_aload_0 55 dX0_isTold_54 rfl ?_
        refine j_callSi 58 Y_X0_allComeToTheRoot [0, 1] [_] (c_X0_allComeToTheRoot E _ _ _ _ hn he) m_X0_allComeToTheRoot wml_X0_55 dX0_isTold_55 rfl rfl rfl rfl rfl rfl rfl ?_
        refine j_bif_eq 65 61 dX0_isTold_58 (fun h58 => ?_) (fun h58 => ?_)
        · refine j_iconst 66 dX0_isTold_65 ?_
          exact j_zret (by decide +kernel) dX0_isTold_66 rfl rfl ⟨congrArg (fun z => some (Value.int (iI z))) ((toB_f (fun z => h58 z.2.2)).symm), rfl⟩
        · refine j_iconst 62 dX0_isTold_61 ?_
          refine j_goto 66 dX0_isTold_62 ?_
          exact j_zret (by first | exact bI_n _ | decide +kernel) dX0_isTold_66 rfl rfl ⟨congrArg (fun z => some (Value.int (iI z))) ((toB_t ⟨he, by omega, h58⟩).symm), rfl⟩
    · have hst : rcF (tI f) (k + 1) = rcF (tI f) k + (if (tI f) k = -1 then 1 else 0) := rfl
      refine j_aload_0 13 dX0_isTold_12 rfl ?_
      refine j_get 16 0 gf_X0_48 dX0_isTold_13 rfl rfl ?_
      refine j_iload_2 17 dX0_isTold_16 rfl ?_
      refine j_iald 18 1 _ dX0_isTold_17 rfl rfl rfl (by omega) ?_
      refine j_iconst 19 dX0_isTold_18 ?_
      refine j_icmp_ne 28 22 dX0_isTold_19 (by first | with_reducible exact iI_rng _ | with_reducible exact bI_r _ | exact ⟨by omega, by omega⟩) (by first | with_reducible exact iI_rng _ | with_reducible exact bI_r _ | exact ⟨by omega, by omega⟩) (fun h19 => ?_) (fun h19 => ?_)
      · rw [if_neg (show ¬ (f k).toInt = -1 by omega), Nat.add_zero] at hst
        refine j_aload_0 29 dX0_isTold_28 rfl ?_
        refine j_aload_0 30 dX0_isTold_29 rfl ?_
        refine j_get 33 0 gf_X0_48 dX0_isTold_30 rfl rfl ?_
        refine j_iload_2 34 dX0_isTold_33 rfl ?_
        refine j_iald 35 1 _ dX0_isTold_34 rfl rfl rfl (by omega) ?_
        refine j_callVi 38 Y_X4_lacks [0] [_] (c_X4_lacks E _ _ _ _ (by exact ⟨by omega, by omega⟩) (iI_rng _)) m_X4_lacks wml_X0_51 dX0_isTold_35 0 rfl rfl rfl rfl rfl rfl rfl rfl rfl rfl ?_
        refine j_bif_eq 43 41 dX0_isTold_38 (fun h38 => ?_) (fun h38 => ?_)
        · refine j_iinc 46 (lv' := [(0, _), (1, _), (2, _)]) dX0_isTold_43 rfl rfl ⟨rfl, rfl⟩ ?_
          refine j_goto 4 dX0_isTold_46 ?_
          have h := ih (k + 1) (by omega) (by omega) (fun j hj => by
            by_cases hjk : j = k
            · subst hjk; first | exact Or.inl h19 | (show (f j).toInt = -1 ∨ (0 ≤ (f j).toInt ∧ (f j).toInt < n); omega)
            · exact he j (by omega))
          rw [hst] at h
          exact h
        · refine j_iconst 42 dX0_isTold_41 ?_
          exact j_zret (by first | exact bI_n _ | decide +kernel) dX0_isTold_42 rfl rfl ⟨congrArg (fun z => some (Value.int (iI z))) ((toB_f (fun z => by have h0 := z.1 k (by omega); have h1 : (f k).toInt = -1 ∨ (0 ≤ (f k).toInt ∧ (f k).toInt < n) := h0; omega)).symm), rfl⟩
      · rw [if_pos (show (f k).toInt = -1 by omega)] at hst
        refine j_iinc 25 (lv' := [(0, _), (1, _), (2, _)]) dX0_isTold_22 rfl rfl ⟨rfl, rfl⟩ ?_
        refine j_goto 43 dX0_isTold_25 ?_
        refine j_iinc 46 (lv' := [(0, _), (1, _), (2, _)]) dX0_isTold_43 rfl rfl ⟨rfl, rfl⟩ ?_
        refine j_goto 4 dX0_isTold_46 ?_
        have h := ih (k + 1) (by omega) (by omega) (fun j hj => by
          by_cases hjk : j = k
          · subst hjk; first | exact Or.inl h19 | (show (f j).toInt = -1 ∨ (0 ≤ (f j).toInt ∧ (f j).toInt < n); omega)
          · exact he j (by omega))
        rw [hst] at h
        exact h

set_option maxRecDepth 100000 in
set_option maxHeartbeats 4000000 in
theorem c_X0_isTold (E : jD) (a b : Nat) (n : Nat) (f : Nat → Int32) (hn : n ≤ 48) : MC E Y_X0_isTold [.ref a] [(a, jO 4 [.ref b, .int (iI (n : Int))]), (b, jA E 48 f)] (fun r N0 => r = some (.int (iI (toB (tI f) n))) ∧ N0 = [(a, jO 4 [.ref b, .int (iI (n : Int))]), (b, jA E 48 f)]) := by
  refine MC.of (by decide) rfl rfl ?_
  refine j_iconst 1 dX0_isTold_0 ?_
  refine j_istore_1 2 (lv' := [(0, _), (1, _)]) dX0_isTold_1 rfl ⟨rfl, rfl⟩ ?_
  refine j_iconst 3 dX0_isTold_2 ?_
  refine j_istore_2 4 (lv' := [(0, _), (1, _), (2, _)]) dX0_isTold_3 rfl ⟨rfl, rfl⟩ ?_
  exact lp_isTold E a b n f hn (n + 1) 0 (by omega) (by omega) (fun j hj => by omega)

set_option maxRecDepth 100000 in
set_option maxHeartbeats 4000000 in
theorem c_X0_lacks (E : jD) (y0 y1 y2 y3 y4 y5 y6 y8 : Nat) (nd u : Int) (hN : jr nd) (hi : jr u) : MC E Y_X0_lacks [.ref y0, .int (iI u)] [(y0, jO 0 [.ref y1, .ref y2, .ref y3, .ref y4, .ref y5, .ref y6, .ref y8, .int (iI nd)])] (fun r N0 => r = some (.int (iI (bI (u < 0 ∨ nd ≤ u)))) ∧ N0 = [(y0, jO 0 [.ref y1, .ref y2, .ref y3, .ref y4, .ref y5, .ref y6, .ref y8, .int (iI nd)])]) := by
  refine MC.of (by decide) rfl rfl ?_
  refine j_iload_1 1 dX0_lacks_0 rfl ?_
  refine j_if_lt 12 4 dX0_lacks_1 (by first | with_reducible exact iI_rng _ | with_reducible exact bI_r _ | exact ⟨by omega, by omega⟩) (fun h1 => ?_) (fun h1 => ?_)
  · refine j_iconst 13 dX0_lacks_12 ?_
    refine j_goto 17 dX0_lacks_13 ?_
    exact j_zret (by first | exact bI_n _ | decide +kernel) dX0_lacks_17 rfl rfl ⟨congrArg (fun z => some (Value.int (iI z))) (by first | exact (bI_t (by omega)).symm | exact (bI_f (by omega)).symm), rfl⟩
  · refine j_iload_1 5 dX0_lacks_4 rfl ?_
    refine j_aload_0 6 dX0_lacks_5 rfl ?_
    refine j_get 9 0 gf_X0_41 dX0_lacks_6 rfl rfl ?_
    refine j_icmp_lt 16 12 dX0_lacks_9 (by first | with_reducible exact iI_rng _ | with_reducible exact bI_r _ | exact ⟨by omega, by omega⟩) (by first | with_reducible exact iI_rng _ | with_reducible exact bI_r _ | exact ⟨by omega, by omega⟩) (fun h9 => ?_) (fun h9 => ?_)
    · refine j_iconst 17 dX0_lacks_16 ?_
      exact j_zret (by first | exact bI_n _ | decide +kernel) dX0_lacks_17 rfl rfl ⟨congrArg (fun z => some (Value.int (iI z))) (by first | exact (bI_t (by omega)).symm | exact (bI_f (by omega)).symm), rfl⟩
    · refine j_iconst 13 dX0_lacks_12 ?_
      refine j_goto 17 dX0_lacks_13 ?_
      exact j_zret (by first | exact bI_n _ | decide +kernel) dX0_lacks_17 rfl rfl ⟨congrArg (fun z => some (Value.int (iI z))) (by first | exact (bI_t (by omega)).symm | exact (bI_f (by omega)).symm), rfl⟩

set_option maxRecDepth 100000 in
set_option maxHeartbeats 4000000 in
theorem lp_root (E : jD) (y0 y1 y2 y3 y4 y5 y6 y8 : Nat) (n : Nat) (pa : Nat → Int32) (p : Nat → Int) (hn : 1 ≤ n ∧ n ≤ 24) (hpk : ∀ k, k < n → (pa k).toInt = p k) : ∀ (d : Nat) (k : Nat), n - 1 - k < d → (k ≤ n - 1) → (roF p (n - 1 - k) k = roF p (n - 1) 0) → J E Y_X0_root (jZm E Y_X0_root (fun r N0 => r = some (.int (iI ((roF p (n - 1) 0 : Nat)))) ∧ N0 = [(y0, jO 0 [.ref y1, .ref y2, .ref y3, .ref y4, .ref y5, .ref y6, .ref y8, .int (iI (n : Int))]), (y1, jA E 24 pa)])) 0 0 2 [(0, .ref y0), (1, .int (iI (k : Int)))] [] [(y0, jO 0 [.ref y1, .ref y2, .ref y3, .ref y4, .ref y5, .ref y6, .ref y8, .int (iI (n : Int))]), (y1, jA E 24 pa)] := by
  intro d
  induction d with
  | zero => intros; omega
  | succ d ih =>
    intro k hd hk he
    refine j_iload_1 3 dX0_root_2 rfl ?_
    refine j_aload_0 4 dX0_root_3 rfl ?_
    refine j_get 7 0 gf_X0_41 dX0_root_4 rfl rfl ?_
    refine j_iconst 8 dX0_root_7 ?_
    refine j_isub 9 dX0_root_8 ?_
    refine j_icmp_ge 28 12 dX0_root_9 (by first | with_reducible exact iI_rng _ | with_reducible exact bI_r _ | exact ⟨by omega, by omega⟩) (by first | with_reducible exact iI_rng _ | with_reducible exact bI_r _ | exact ⟨by omega, by omega⟩) (fun h9 => ?_) (fun h9 => ?_)
    · have e : n - 1 - k = 0 := by omega
      rw [e] at he
      refine j_iload_1 29 dX0_root_28 rfl ?_
      exact j_iret dX0_root_29 rfl rfl ⟨congrArg (fun z => some (Value.int (iI z))) (by first | (rw [← he]; done) | (rw [← he]; rfl)), rfl⟩
    · obtain ⟨c, hc⟩ : ∃ c, n - 1 - k = c + 1 := ⟨n - 1 - k - 1, by omega⟩
      rw [hc] at he
      have hft := hpk k (by omega)
      refine j_aload_0 13 dX0_root_12 rfl ?_
      refine j_get 16 0 gf_X0_9 dX0_root_13 rfl rfl ?_
      refine j_iload_1 17 dX0_root_16 rfl ?_
      refine j_iald 18 1 _ dX0_root_17 rfl rfl rfl (by omega) ?_
      refine j_iconst 19 dX0_root_18 ?_
      refine j_icmp_eq 28 22 dX0_root_19 (by first | with_reducible exact iI_rng _ | with_reducible exact bI_r _ | exact ⟨by omega, by omega⟩) (by first | with_reducible exact iI_rng _ | with_reducible exact bI_r _ | exact ⟨by omega, by omega⟩) (fun h19 => ?_) (fun h19 => ?_)
      · have e2 : roF p (c + 1) k = k := if_pos (by omega)
        rw [e2] at he
        refine j_iload_1 29 dX0_root_28 rfl ?_
        exact j_iret dX0_root_29 rfl rfl ⟨congrArg (fun z => some (Value.int (iI z))) (by first | (rw [← he]; done) | (rw [← he]; rfl)), rfl⟩
      · have e2 : roF p (c + 1) k = roF p c (k + 1) := if_neg (by omega)
        rw [e2] at he
        refine j_iinc 25 (lv' := [(0, _), (1, _)]) dX0_root_22 rfl rfl ⟨rfl, rfl⟩ ?_
        refine j_goto 2 dX0_root_25 ?_
        exact ih (k + 1) (by omega) (by omega) (by rw [show n - 1 - (k + 1) = c by omega, he])

set_option maxRecDepth 100000 in
set_option maxHeartbeats 4000000 in
theorem c_X0_root (E : jD) (y0 y1 y2 y3 y4 y5 y6 y8 : Nat) (n : Nat) (pa : Nat → Int32) (p : Nat → Int) (hn : 1 ≤ n ∧ n ≤ 24) (hpk : ∀ k, k < n → (pa k).toInt = p k) : MC E Y_X0_root [.ref y0] [(y0, jO 0 [.ref y1, .ref y2, .ref y3, .ref y4, .ref y5, .ref y6, .ref y8, .int (iI (n : Int))]), (y1, jA E 24 pa)] (fun r N0 => r = some (.int (iI ((roF p (n - 1) 0 : Nat)))) ∧ N0 = [(y0, jO 0 [.ref y1, .ref y2, .ref y3, .ref y4, .ref y5, .ref y6, .ref y8, .int (iI (n : Int))]), (y1, jA E 24 pa)]) := by
  refine MC.of (by decide) rfl rfl ?_
  refine j_iconst 1 dX0_root_0 ?_
  refine j_istore_1 2 (lv' := [(0, _), (1, _)]) dX0_root_1 rfl ⟨rfl, rfl⟩ ?_
  exact lp_root E y0 y1 y2 y3 y4 y5 y6 y8 n pa p hn hpk n 0 (by omega) (by omega) rfl

set_option maxRecDepth 100000 in
set_option maxHeartbeats 4000000 in
theorem lp_sonBehind (E : jD) (y0 y1 y2 y3 y4 y5 y6 y8 : Nat) (n : Nat) (pa : Nat → Int32) (p : Nat → Int) (hn : 1 ≤ n ∧ n ≤ 24) (hpk : ∀ k, k < n → (pa k).toInt = p k) (u sd : Int) (hu : jr u) (hsd : -1 ≤ sd ∧ sd < n) : ∀ (d : Nat) (k : Nat), n - k < d → (k ≤ n) → (sbF p u (n - k) k = soF p n u sd) → J E Y_X0_sonBehind (jZm E Y_X0_sonBehind (fun r N0 => r = some (.int (iI ((soF p n u sd : Nat)))) ∧ N0 = [(y0, jO 0 [.ref y1, .ref y2, .ref y3, .ref y4, .ref y5, .ref y6, .ref y8, .int (iI (n : Int))]), (y1, jA E 24 pa)])) 0 0 4 [(0, .ref y0), (1, .int (iI u)), (2, .int (iI sd)), (3, .int (iI (k : Int)))] [] [(y0, jO 0 [.ref y1, .ref y2, .ref y3, .ref y4, .ref y5, .ref y6, .ref y8, .int (iI (n : Int))]), (y1, jA E 24 pa)] := by
  intro d
  induction d with
  | zero => intros; omega
  | succ d ih =>
    intro k hd hk he
    refine j_iload_3 5 dX0_sonBehind_4 rfl ?_
    refine j_aload_0 6 dX0_sonBehind_5 rfl ?_
    refine j_get 9 0 gf_X0_41 dX0_sonBehind_6 rfl rfl ?_
    refine j_icmp_ge 28 12 dX0_sonBehind_9 (by first | with_reducible exact iI_rng _ | with_reducible exact bI_r _ | exact ⟨by omega, by omega⟩) (by first | with_reducible exact iI_rng _ | with_reducible exact bI_r _ | exact ⟨by omega, by omega⟩) (fun h9 => ?_) (fun h9 => ?_)
    · have e : n - k = 0 := by omega
      rw [e] at he
      refine j_iload_3 29 dX0_sonBehind_28 rfl ?_
      exact j_iret dX0_sonBehind_29 rfl rfl ⟨congrArg (fun z => some (Value.int (iI z))) (by first | (rw [← he]; done) | (rw [← he]; rfl)), rfl⟩
    · obtain ⟨c, hc⟩ : ∃ c, n - k = c + 1 := ⟨n - k - 1, by omega⟩
      rw [hc] at he
      have hft := hpk k (by omega)
      refine j_aload_0 13 dX0_sonBehind_12 rfl ?_
      refine j_get 16 0 gf_X0_9 dX0_sonBehind_13 rfl rfl ?_
      refine j_iload_3 17 dX0_sonBehind_16 rfl ?_
      refine j_iald 18 1 _ dX0_sonBehind_17 rfl rfl rfl (by omega) ?_
      refine j_iload_1 19 dX0_sonBehind_18 rfl ?_
      refine j_icmp_eq 28 22 dX0_sonBehind_19 (by first | with_reducible exact iI_rng _ | with_reducible exact bI_r _ | exact ⟨by omega, by omega⟩) (by first | with_reducible exact iI_rng _ | with_reducible exact bI_r _ | exact ⟨by omega, by omega⟩) (fun h19 => ?_) (fun h19 => ?_)
      · have e2 : sbF p u (c + 1) k = k := if_pos (by omega)
        rw [e2] at he
        refine j_iload_3 29 dX0_sonBehind_28 rfl ?_
        exact j_iret dX0_sonBehind_29 rfl rfl ⟨congrArg (fun z => some (Value.int (iI z))) (by first | (rw [← he]; done) | (rw [← he]; rfl)), rfl⟩
      · have e2 : sbF p u (c + 1) k = sbF p u c (k + 1) := if_neg (by omega)
        rw [e2] at he
        refine j_iinc 25 (lv' := [(0, _), (1, _), (2, _), (3, _)]) dX0_sonBehind_22 rfl rfl ⟨rfl, rfl⟩ ?_
        refine j_goto 4 dX0_sonBehind_25 ?_
        exact ih (k + 1) (by omega) (by omega) (by rw [show n - (k + 1) = c by omega, he])

set_option maxRecDepth 100000 in
set_option maxHeartbeats 4000000 in
theorem c_X0_sonBehind (E : jD) (y0 y1 y2 y3 y4 y5 y6 y8 : Nat) (n : Nat) (pa : Nat → Int32) (p : Nat → Int) (u sd : Int) (hn : 1 ≤ n ∧ n ≤ 24) (hpk : ∀ k, k < n → (pa k).toInt = p k) (hu : jr u) (hsd : -1 ≤ sd ∧ sd < n) : MC E Y_X0_sonBehind [.ref y0, .int (iI u), .int (iI sd)] [(y0, jO 0 [.ref y1, .ref y2, .ref y3, .ref y4, .ref y5, .ref y6, .ref y8, .int (iI (n : Int))]), (y1, jA E 24 pa)] (fun r N0 => r = some (.int (iI ((soF p n u sd : Nat)))) ∧ N0 = [(y0, jO 0 [.ref y1, .ref y2, .ref y3, .ref y4, .ref y5, .ref y6, .ref y8, .int (iI (n : Int))]), (y1, jA E 24 pa)]) := by
  refine MC.of (by decide) rfl rfl ?_
  refine j_iload_2 1 dX0_sonBehind_0 rfl ?_
  refine j_iconst 2 dX0_sonBehind_1 ?_
  refine j_iadd 3 dX0_sonBehind_2 ?_
  refine j_top (((sd + 1).toNat : Nat) : Int) (congrArg iI (by omega)) ?_
  refine j_istore_3 4 (lv' := [(0, _), (1, _), (2, _), (3, _)]) dX0_sonBehind_3 rfl ⟨rfl, rfl⟩ ?_
  exact lp_sonBehind E y0 y1 y2 y3 y4 y5 y6 y8 n pa p hn hpk u sd hu hsd (n + 1) (sd + 1).toNat (by omega) (by omega) rfl

theorem upF_s (p : Nat → Int) : ∀ j u, upF p (j + 1) u = (p (upF p j u)).toNat
  | 0, _ => rfl
  | j + 1, u => upF_s p j (p u).toNat

set_option maxRecDepth 100000 in
set_option maxHeartbeats 4000000 in
theorem lp_ancestorAt (E : jD) (y0 y1 y2 y3 y4 y5 y6 y8 : Nat) (n : Nat) (pa de : Nat → Int32) (p : Nat → Int) (hn : n ≤ 24) (hpk : ∀ k, k < n → (pa k).toInt = p k) (hp : inT p n) (hde : ∀ k, k < n → de k = iI (srF p n k : Nat)) (u : Nat) (hu : u < n) (dd : Int) (hd0 : 0 ≤ dd) (hle : ¬ (srF p n u : Int) < dd) : ∀ (d : Nat) (j : Nat), srF p n u - j < d → (j ≤ srF p n u - dd.toNat) → J E Y_X0_ancestorAt (jZm E Y_X0_ancestorAt (fun r N0 => r = some (.int (iI ((if (srF p n u : Int) < dd then -9 else ((upF p (srF p n u - dd.toNat) u : Nat) : Int))))) ∧ N0 = [(y0, jO 0 [.ref y1, .ref y2, .ref y3, .ref y4, .ref y5, .ref y6, .ref y8, .int (iI (n : Int))]), (y1, jA E 24 pa), (y2, jA E 24 de)])) 0 0 23 [(0, .ref y0), (1, .int (iI (u : Int))), (2, .int (iI dd)), (3, .int (iI ((upF p j u : Nat) : Int))), (4, .int (iI ((srF p n u : Int) - j)))] [] [(y0, jO 0 [.ref y1, .ref y2, .ref y3, .ref y4, .ref y5, .ref y6, .ref y8, .int (iI (n : Int))]), (y1, jA E 24 pa), (y2, jA E 24 de)] := by
  intro d
  induction d with
  | zero => intros; omega
  | succ d ih =>
    intro j hd hj
    have hsl := srF_le p n u
    refine j_iload 25 dX0_ancestorAt_23 rfl ?_
    refine j_iload_2 26 dX0_ancestorAt_25 rfl ?_
    refine j_icmp_le 42 29 dX0_ancestorAt_26 (by first | with_reducible exact iI_rng _ | with_reducible exact bI_r _ | exact ⟨by omega, by omega⟩) (by first | with_reducible exact iI_rng _ | with_reducible exact bI_r _ | exact ⟨by omega, by omega⟩) (fun h26 => ?_) (fun h26 => ?_)
    · have e : j = srF p n u - dd.toNat := by omega
      subst e
      refine j_iload_3 43 dX0_ancestorAt_42 rfl ?_
      exact j_iret dX0_ancestorAt_43 rfl rfl ⟨congrArg (fun z => some (Value.int (iI z))) ((if_neg hle).symm), rfl⟩
    · obtain ⟨hu1, hu2⟩ := up_in hp n u hu j (by omega)
      have hu3 := hu2 (by omega)
      have hu4 := hp _ hu1
      have hft := hpk _ hu1
      refine j_aload_0 30 dX0_ancestorAt_29 rfl ?_
      refine j_get 33 0 gf_X0_9 dX0_ancestorAt_30 rfl rfl ?_
      refine j_iload_3 34 dX0_ancestorAt_33 rfl ?_
      refine j_ialdw 35 1 _ (((upF p (j + 1) u : Nat) : Int)) dX0_ancestorAt_34 rfl rfl rfl (by omega) (by rw [← iI_x (pa _), hft, upF_s]; exact congrArg iI (by omega)) ?_
      refine j_istore_3 36 (lv' := [(0, _), (1, _), (2, _), (3, _), (4, _)]) dX0_ancestorAt_35 rfl ⟨rfl, rfl⟩ ?_
      refine j_iinc 39 (lv' := [(0, _), (1, _), (2, _), (3, _), (4, _)]) dX0_ancestorAt_36 rfl rfl ⟨rfl, rfl⟩ ?_
      refine j_goto 23 dX0_ancestorAt_39 ?_
      refine j_eqL (lv' := [(0, .ref y0), (1, .int (iI (u : Int))), (2, .int (iI dd)), (3, .int (iI ((upF p (j + 1) u : Nat) : Int))), (4, .int (iI ((srF p n u : Int) - ((j + 1 : Nat) : Int))))]) (by rw [show (srF p n u : Int) - j + -1 = (srF p n u : Int) - ((j + 1 : Nat) : Int) by omega]) ?_
      exact ih (j + 1) (by omega) (by omega)

set_option maxRecDepth 100000 in
set_option maxHeartbeats 4000000 in
theorem c_X0_ancestorAt (E : jD) (y0 y1 y2 y3 y4 y5 y6 y8 : Nat) (n : Nat) (pa de : Nat → Int32) (p : Nat → Int) (u : Nat) (dd : Int) (hn : n ≤ 24) (hpk : ∀ k, k < n → (pa k).toInt = p k) (hp : inT p n) (hde : ∀ k, k < n → de k = iI (srF p n k : Nat)) (hu : u < n) (hd0 : 0 ≤ dd) (hdr : jr dd) : MC E Y_X0_ancestorAt [.ref y0, .int (iI (u : Int)), .int (iI dd)] [(y0, jO 0 [.ref y1, .ref y2, .ref y3, .ref y4, .ref y5, .ref y6, .ref y8, .int (iI (n : Int))]), (y1, jA E 24 pa), (y2, jA E 24 de)] (fun r N0 => r = some (.int (iI ((if (srF p n u : Int) < dd then -9 else ((upF p (srF p n u - dd.toNat) u : Nat) : Int))))) ∧ N0 = [(y0, jO 0 [.ref y1, .ref y2, .ref y3, .ref y4, .ref y5, .ref y6, .ref y8, .int (iI (n : Int))]), (y1, jA E 24 pa), (y2, jA E 24 de)]) := by
  refine MC.of (by decide) rfl rfl ?_
  have hsl := srF_le p n u
  refine j_iload_2 1 dX0_ancestorAt_0 rfl ?_
  refine j_aload_0 2 dX0_ancestorAt_1 rfl ?_
  refine j_get 5 0 gf_X0_15 dX0_ancestorAt_2 rfl rfl ?_
  refine j_iload_1 6 dX0_ancestorAt_5 rfl ?_
  refine j_ialdw 7 2 _ ((srF p n u : Int)) dX0_ancestorAt_6 rfl rfl rfl (by omega) (hde u hu) ?_
  refine j_icmp_le 13 10 dX0_ancestorAt_7 (by first | with_reducible exact iI_rng _ | with_reducible exact bI_r _ | exact ⟨by omega, by omega⟩) (by first | with_reducible exact iI_rng _ | with_reducible exact bI_r _ | exact ⟨by omega, by omega⟩) (fun h7 => ?_) (fun h7 => ?_)
  · refine j_iload_1 14 dX0_ancestorAt_13 rfl ?_
    refine j_istore_3 15 (lv' := [(0, _), (1, _), (2, _), (3, _)]) dX0_ancestorAt_14 rfl ⟨rfl, rfl⟩ ?_
    refine j_aload_0 16 dX0_ancestorAt_15 rfl ?_
    refine j_get 19 0 gf_X0_15 dX0_ancestorAt_16 rfl rfl ?_
    refine j_iload_1 20 dX0_ancestorAt_19 rfl ?_
    refine j_ialdw 21 2 _ ((srF p n u : Int)) dX0_ancestorAt_20 rfl rfl rfl (by omega) (hde u hu) ?_
    refine j_istore 23 (lv' := [(0, _), (1, _), (2, _), (3, _), (4, _)]) dX0_ancestorAt_21 rfl ⟨rfl, rfl⟩ ?_
    refine j_eqL (lv' := [(0, .ref y0), (1, .int (iI (u : Int))), (2, .int (iI dd)), (3, .int (iI ((upF p 0 u : Nat) : Int))), (4, .int (iI ((srF p n u : Int) - ((0 : Nat) : Int))))]) (by rw [show (srF p n u : Int) - ((0 : Nat) : Int) = (srF p n u : Int) by omega]; rfl) ?_
    exact lp_ancestorAt E y0 y1 y2 y3 y4 y5 y6 y8 n pa de p hn hpk hp hde u hu dd hd0 (by omega) (srF p n u + 1) 0 (by omega) (by omega)
  · refine j_bipush 12 dX0_ancestorAt_10 (by decide +kernel) ?_
    exact j_iret dX0_ancestorAt_12 rfl rfl ⟨congrArg (fun z => some (Value.int (iI z))) ((if_pos (by omega)).symm), rfl⟩

set_option maxRecDepth 100000 in
set_option maxHeartbeats 4000000 in
theorem c_X0_meetingNode (E : jD) (y0 y1 y2 y3 y4 y5 y6 y8 : Nat) (y9 y10 y11 y12 y14 : Nat) (nd tw tb : Int) (tn : Nat) (fi mt tf : Nat → Int32) (u v a b : Nat) (hu : u < 24) (hv : v < 24) (ha : fi u = iI (a : Int)) (hb : fi v = iI (b : Int)) (ha2 : a < 47) (hb2 : b < 47) : MC E Y_X0_meetingNode [.ref y0, .int (iI (u : Int)), .int (iI (v : Int))] [(y0, jO 0 [.ref y1, .ref y2, .ref y3, .ref y4, .ref y5, .ref y6, .ref y8, .int (iI nd)]), (y4, jA E 24 fi), (y5, jA E 47 mt), (y8, jO 3 [.ref y9, .ref y11, .ref y12, .ref y14, .int (iI tw), .int (iI tb)]), (y9, jO 4 [.ref y10, .int (iI (tn : Int))]), (y10, jA E 48 tf)] (fun r N0 => r = some (.int (iI ((mt (lsF (tI tf) (min a b) (max a b - min a b))).toInt))) ∧ N0 = [(y0, jO 0 [.ref y1, .ref y2, .ref y3, .ref y4, .ref y5, .ref y6, .ref y8, .int (iI nd)]), (y4, jA E 24 fi), (y5, jA E 47 mt), (y8, jO 3 [.ref y9, .ref y11, .ref y12, .ref y14, .int (iI tw), .int (iI tb)]), (y9, jO 4 [.ref y10, .int (iI (tn : Int))]), (y10, jA E 48 tf)]) := by
  refine MC.of (by decide) rfl rfl ?_
  have hls := lsF_in (tI tf) (min a b) (max a b - min a b)
  refine j_aload_0 1 dX0_meetingNode_0 rfl ?_
  refine j_get 4 0 gf_X0_21 dX0_meetingNode_1 rfl rfl ?_
  refine j_iload_1 5 dX0_meetingNode_4 rfl ?_
  refine j_ialdw 6 1 _ ((a : Int)) dX0_meetingNode_5 rfl rfl rfl (by omega) ha ?_
  refine j_aload_0 7 dX0_meetingNode_6 rfl ?_
  refine j_get 10 0 gf_X0_21 dX0_meetingNode_7 rfl rfl ?_
  refine j_iload_2 11 dX0_meetingNode_10 rfl ?_
  refine j_ialdw 12 1 _ ((b : Int)) dX0_meetingNode_11 rfl rfl rfl (by omega) hb ?_
  refine j_min 15 wml_X0_97 dX0_meetingNode_12 (by first | with_reducible exact iI_rng _ | with_reducible exact bI_r _ | exact ⟨by omega, by omega⟩) (by first | with_reducible exact iI_rng _ | with_reducible exact bI_r _ | exact ⟨by omega, by omega⟩) rfl ?_
  refine j_top ((min a b : Nat) : Int) (congrArg iI (by omega)) ?_
  refine j_istore_3 16 (lv' := [(0, _), (1, _), (2, _), (3, _)]) dX0_meetingNode_15 rfl ⟨rfl, rfl⟩ ?_
  refine j_aload_0 17 dX0_meetingNode_16 rfl ?_
  refine j_get 20 0 gf_X0_21 dX0_meetingNode_17 rfl rfl ?_
  refine j_iload_1 21 dX0_meetingNode_20 rfl ?_
  refine j_ialdw 22 1 _ ((a : Int)) dX0_meetingNode_21 rfl rfl rfl (by omega) ha ?_
  refine j_aload_0 23 dX0_meetingNode_22 rfl ?_
  refine j_get 26 0 gf_X0_21 dX0_meetingNode_23 rfl rfl ?_
  refine j_iload_2 27 dX0_meetingNode_26 rfl ?_
  refine j_ialdw 28 1 _ ((b : Int)) dX0_meetingNode_27 rfl rfl rfl (by omega) hb ?_
  refine j_max 31 wml_X0_102 dX0_meetingNode_28 (by first | with_reducible exact iI_rng _ | with_reducible exact bI_r _ | exact ⟨by omega, by omega⟩) (by first | with_reducible exact iI_rng _ | with_reducible exact bI_r _ | exact ⟨by omega, by omega⟩) rfl ?_
  refine j_top ((max a b : Nat) : Int) (congrArg iI (by omega)) ?_
  refine j_istore 33 (lv' := [(0, _), (1, _), (2, _), (3, _), (4, _)]) dX0_meetingNode_31 rfl ⟨rfl, rfl⟩ ?_
  refine j_aload_0 34 dX0_meetingNode_33 rfl ?_
  refine j_get 37 0 gf_X0_24 dX0_meetingNode_34 rfl rfl ?_
  refine j_aload_0 38 dX0_meetingNode_37 rfl ?_
  refine j_get 41 0 gf_X0_37 dX0_meetingNode_38 rfl rfl ?_
  refine j_iload_3 42 dX0_meetingNode_41 rfl ?_
  refine j_iload 44 dX0_meetingNode_42 rfl ?_
  refine j_callVi 47 Y_X3_leastPlace [3, 4, 5] [_, _] (c_X3_leastPlace E _ _ _ _ _ _ _ _ _ _ _ _ (by omega) (by omega)) m_X3_leastPlace wml_X0_105 dX0_meetingNode_44 0 rfl rfl rfl rfl rfl rfl rfl rfl rfl rfl ?_
  refine j_iald 48 2 _ dX0_meetingNode_47 rfl rfl rfl (by omega) ?_
  exact j_iret dX0_meetingNode_48 rfl rfl ⟨rfl, rfl⟩

set_option maxRecDepth 100000 in
set_option maxHeartbeats 4000000 in
theorem c_X0_init (E : jD) (y0 : Nat) : MC E Y_X0_init [.ref y0] [(y0, jO 0 [.null, .null, .null, .null, .null, .null, .null, .int 0])] (fun r N0 => ∃ y1 y2 y3 y4 y5 y6 y7 y8 y9 y10 y11 y12 y13 y14, r = none ∧ N0 = [(y0, jO 0 [.ref y1, .ref y2, .ref y3, .ref y4, .ref y5, .ref y6, .ref y8, .int (iI 0)]), (y1, jA E 24 (fun _ => 0)), (y2, jA E 24 (fun _ => 0)), (y3, jA E 24 (fun _ => 0)), (y4, jA E 24 (fun _ => 0)), (y5, jA E 47 (fun _ => 0)), (y6, jO 4 [.ref y7, .int (iI (-1))]), (y7, jA E 48 (fun _ => 0)), (y8, jO 3 [.ref y9, .ref y11, .ref y12, .ref y14, .int (iI 0), .int (iI 0)]), (y9, jO 4 [.ref y10, .int (iI (-1))]), (y10, jA E 48 (fun _ => 0)), (y11, jA E 48 (fun _ => 0)), (y12, jO 5 [.ref y13, .int (iI 0)]), (y13, jL E 64 (fun _ => 0)), (y14, jA E 6 (fun _ => 0))]) := by
  refine MC.of (by decide) rfl rfl ?_
  refine j_aload_0 1 dX0_init_0 rfl ?_
  refine j_obj 4 wml_X0_3 dX0_init_1 rfl ?_
  refine j_aload_0 5 dX0_init_4 rfl ?_
  refine j_bipush 7 dX0_init_5 (by decide +kernel) ?_
  refine j_newa 9 24 rfl rfl dX0_init_7 rfl (fun y1 => ?_)
  refine j_eqM (M' := [(y0, jO 0 [.null, .null, .null, .null, .null, .null, .null, .int 0]), (y1, jA E 24 (fun _ => 0))]) rfl ?_
  refine j_putF 12 0 pf_X0_9 rfl rfl dX0_init_9 rfl ⟨rfl, rfl, rfl⟩ ?_
  refine j_eqM (M' := [(y0, jO 0 [.ref y1, .null, .null, .null, .null, .null, .null, .int 0]), (y1, jA E 24 (fun _ => 0))]) rfl ?_
  refine j_aload_0 13 dX0_init_12 rfl ?_
  refine j_bipush 15 dX0_init_13 (by decide +kernel) ?_
  refine j_newa 17 24 rfl rfl dX0_init_15 rfl (fun y2 => ?_)
  refine j_eqM (M' := [(y0, jO 0 [.ref y1, .null, .null, .null, .null, .null, .null, .int 0]), (y1, jA E 24 (fun _ => 0)), (y2, jA E 24 (fun _ => 0))]) rfl ?_
  refine j_putF 20 0 pf_X0_15 rfl rfl dX0_init_17 rfl ⟨rfl, rfl, rfl⟩ ?_
  refine j_eqM (M' := [(y0, jO 0 [.ref y1, .ref y2, .null, .null, .null, .null, .null, .int 0]), (y1, jA E 24 (fun _ => 0)), (y2, jA E 24 (fun _ => 0))]) rfl ?_
  refine j_aload_0 21 dX0_init_20 rfl ?_
  refine j_bipush 23 dX0_init_21 (by decide +kernel) ?_
  refine j_newa 25 24 rfl rfl dX0_init_23 rfl (fun y3 => ?_)
  refine j_eqM (M' := [(y0, jO 0 [.ref y1, .ref y2, .null, .null, .null, .null, .null, .int 0]), (y1, jA E 24 (fun _ => 0)), (y2, jA E 24 (fun _ => 0)), (y3, jA E 24 (fun _ => 0))]) rfl ?_
  refine j_putF 28 0 pf_X0_18 rfl rfl dX0_init_25 rfl ⟨rfl, rfl, rfl⟩ ?_
  refine j_eqM (M' := [(y0, jO 0 [.ref y1, .ref y2, .ref y3, .null, .null, .null, .null, .int 0]), (y1, jA E 24 (fun _ => 0)), (y2, jA E 24 (fun _ => 0)), (y3, jA E 24 (fun _ => 0))]) rfl ?_
  refine j_aload_0 29 dX0_init_28 rfl ?_
  refine j_bipush 31 dX0_init_29 (by decide +kernel) ?_
  refine j_newa 33 24 rfl rfl dX0_init_31 rfl (fun y4 => ?_)
  refine j_eqM (M' := [(y0, jO 0 [.ref y1, .ref y2, .ref y3, .null, .null, .null, .null, .int 0]), (y1, jA E 24 (fun _ => 0)), (y2, jA E 24 (fun _ => 0)), (y3, jA E 24 (fun _ => 0)), (y4, jA E 24 (fun _ => 0))]) rfl ?_
  refine j_putF 36 0 pf_X0_21 rfl rfl dX0_init_33 rfl ⟨rfl, rfl, rfl⟩ ?_
  refine j_eqM (M' := [(y0, jO 0 [.ref y1, .ref y2, .ref y3, .ref y4, .null, .null, .null, .int 0]), (y1, jA E 24 (fun _ => 0)), (y2, jA E 24 (fun _ => 0)), (y3, jA E 24 (fun _ => 0)), (y4, jA E 24 (fun _ => 0))]) rfl ?_
  refine j_aload_0 37 dX0_init_36 rfl ?_
  refine j_bipush 39 dX0_init_37 (by decide +kernel) ?_
  refine j_newa 41 47 rfl rfl dX0_init_39 rfl (fun y5 => ?_)
  refine j_eqM (M' := [(y0, jO 0 [.ref y1, .ref y2, .ref y3, .ref y4, .null, .null, .null, .int 0]), (y1, jA E 24 (fun _ => 0)), (y2, jA E 24 (fun _ => 0)), (y3, jA E 24 (fun _ => 0)), (y4, jA E 24 (fun _ => 0)), (y5, jA E 47 (fun _ => 0))]) rfl ?_
  refine j_putF 44 0 pf_X0_24 rfl rfl dX0_init_41 rfl ⟨rfl, rfl, rfl⟩ ?_
  refine j_eqM (M' := [(y0, jO 0 [.ref y1, .ref y2, .ref y3, .ref y4, .ref y5, .null, .null, .int 0]), (y1, jA E 24 (fun _ => 0)), (y2, jA E 24 (fun _ => 0)), (y3, jA E 24 (fun _ => 0)), (y4, jA E 24 (fun _ => 0)), (y5, jA E 47 (fun _ => 0))]) rfl ?_
  refine j_aload_0 45 dX0_init_44 rfl ?_
  refine j_new 48 (fs := [.null, .int 0]) tyX4 (ci := 4) rfl inX4 tyX4_ok wcl_X0_27 wn_X4 wi_ShapeMinima_Row (by decide +kernel) dX0_init_45 rfl (fun y6 => ?_)
  refine j_eqM (M' := [(y0, jO 0 [.ref y1, .ref y2, .ref y3, .ref y4, .ref y5, .null, .null, .int 0]), (y1, jA E 24 (fun _ => 0)), (y2, jA E 24 (fun _ => 0)), (y3, jA E 24 (fun _ => 0)), (y4, jA E 24 (fun _ => 0)), (y5, jA E 47 (fun _ => 0)), (y6, jO 4 [.null, .int 0])]) rfl ?_
  refine j_dup 49 dX0_init_48 rfl ?_
  refine j_callI 52 Y_X4_init [6] [] (c_X4_init E y6) m_X4_init wml_X0_29 dX0_init_49 rfl rfl rfl rfl rfl rfl rfl (fun r N h => by obtain ⟨_, rfl, rfl⟩ := h; rfl) (fun r N h => ?_)
  obtain ⟨y7, rfl, rfl⟩ := h
  refine j_eqM (M' := [(y0, jO 0 [.ref y1, .ref y2, .ref y3, .ref y4, .ref y5, .null, .null, .int 0]), (y1, jA E 24 (fun _ => 0)), (y2, jA E 24 (fun _ => 0)), (y3, jA E 24 (fun _ => 0)), (y4, jA E 24 (fun _ => 0)), (y5, jA E 47 (fun _ => 0)), (y6, jO 4 [.ref y7, .int (iI (-1))]), (y7, jA E 48 (fun _ => 0))]) rfl ?_
  refine j_putF 55 0 pf_X0_30 rfl rfl dX0_init_52 rfl ⟨rfl, rfl, rfl⟩ ?_
  refine j_eqM (M' := [(y0, jO 0 [.ref y1, .ref y2, .ref y3, .ref y4, .ref y5, .ref y6, .null, .int 0]), (y1, jA E 24 (fun _ => 0)), (y2, jA E 24 (fun _ => 0)), (y3, jA E 24 (fun _ => 0)), (y4, jA E 24 (fun _ => 0)), (y5, jA E 47 (fun _ => 0)), (y6, jO 4 [.ref y7, .int (iI (-1))]), (y7, jA E 48 (fun _ => 0))]) rfl ?_
  refine j_aload_0 56 dX0_init_55 rfl ?_
  refine j_new 59 (fs := [.null, .null, .null, .null, .int 0, .int 0]) tyX3 (ci := 3) rfl inX3 tyX3_ok wcl_X0_34 wn_X3 wi_ShapeMinima_Index (by decide +kernel) dX0_init_56 rfl (fun y8 => ?_)
  refine j_eqM (M' := [(y0, jO 0 [.ref y1, .ref y2, .ref y3, .ref y4, .ref y5, .ref y6, .null, .int 0]), (y1, jA E 24 (fun _ => 0)), (y2, jA E 24 (fun _ => 0)), (y3, jA E 24 (fun _ => 0)), (y4, jA E 24 (fun _ => 0)), (y5, jA E 47 (fun _ => 0)), (y6, jO 4 [.ref y7, .int (iI (-1))]), (y7, jA E 48 (fun _ => 0)), (y8, jO 3 [.null, .null, .null, .null, .int 0, .int 0])]) rfl ?_
  refine j_dup 60 dX0_init_59 rfl ?_
  refine j_callI 63 Y_X3_init [8] [] (c_X3_init E y8) m_X3_init wml_X0_36 dX0_init_60 rfl rfl rfl rfl rfl rfl rfl (fun r N h => by obtain ⟨_, _, _, _, _, _, rfl, rfl⟩ := h; rfl) (fun r N h => ?_)
  obtain ⟨y9, y10, y11, y12, y13, y14, rfl, rfl⟩ := h
  refine j_eqM (M' := [(y0, jO 0 [.ref y1, .ref y2, .ref y3, .ref y4, .ref y5, .ref y6, .null, .int 0]), (y1, jA E 24 (fun _ => 0)), (y2, jA E 24 (fun _ => 0)), (y3, jA E 24 (fun _ => 0)), (y4, jA E 24 (fun _ => 0)), (y5, jA E 47 (fun _ => 0)), (y6, jO 4 [.ref y7, .int (iI (-1))]), (y7, jA E 48 (fun _ => 0)), (y8, jO 3 [.ref y9, .ref y11, .ref y12, .ref y14, .int (iI 0), .int (iI 0)]), (y9, jO 4 [.ref y10, .int (iI (-1))]), (y10, jA E 48 (fun _ => 0)), (y11, jA E 48 (fun _ => 0)), (y12, jO 5 [.ref y13, .int (iI 0)]), (y13, jL E 64 (fun _ => 0)), (y14, jA E 6 (fun _ => 0))]) rfl ?_
  refine j_putF 66 0 pf_X0_37 rfl rfl dX0_init_63 rfl ⟨rfl, rfl, rfl⟩ ?_
  refine j_eqM (M' := [(y0, jO 0 [.ref y1, .ref y2, .ref y3, .ref y4, .ref y5, .ref y6, .ref y8, .int 0]), (y1, jA E 24 (fun _ => 0)), (y2, jA E 24 (fun _ => 0)), (y3, jA E 24 (fun _ => 0)), (y4, jA E 24 (fun _ => 0)), (y5, jA E 47 (fun _ => 0)), (y6, jO 4 [.ref y7, .int (iI (-1))]), (y7, jA E 48 (fun _ => 0)), (y8, jO 3 [.ref y9, .ref y11, .ref y12, .ref y14, .int (iI 0), .int (iI 0)]), (y9, jO 4 [.ref y10, .int (iI (-1))]), (y10, jA E 48 (fun _ => 0)), (y11, jA E 48 (fun _ => 0)), (y12, jO 5 [.ref y13, .int (iI 0)]), (y13, jL E 64 (fun _ => 0)), (y14, jA E 6 (fun _ => 0))]) rfl ?_
  refine j_aload_0 67 dX0_init_66 rfl ?_
  refine j_iconst 68 dX0_init_67 ?_
  refine j_put 71 0 pf_X0_41 dX0_init_68 rfl ⟨rfl, rfl, rfl⟩ ?_
  refine j_eqM (M' := [(y0, jO 0 [.ref y1, .ref y2, .ref y3, .ref y4, .ref y5, .ref y6, .ref y8, .int (iI (0))]), (y1, jA E 24 (fun _ => 0)), (y2, jA E 24 (fun _ => 0)), (y3, jA E 24 (fun _ => 0)), (y4, jA E 24 (fun _ => 0)), (y5, jA E 47 (fun _ => 0)), (y6, jO 4 [.ref y7, .int (iI (-1))]), (y7, jA E 48 (fun _ => 0)), (y8, jO 3 [.ref y9, .ref y11, .ref y12, .ref y14, .int (iI 0), .int (iI 0)]), (y9, jO 4 [.ref y10, .int (iI (-1))]), (y10, jA E 48 (fun _ => 0)), (y11, jA E 48 (fun _ => 0)), (y12, jO 5 [.ref y13, .int (iI 0)]), (y13, jL E 64 (fun _ => 0)), (y14, jA E 6 (fun _ => 0))]) rfl ?_
  exact j_vret dX0_init_71 rfl rfl ⟨y1, y2, y3, y4, y5, y6, y7, y8, y9, y10, y11, y12, y13, y14, rfl, rfl⟩
