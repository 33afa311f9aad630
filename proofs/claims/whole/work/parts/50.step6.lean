theorem jput_eq {M N T : va_W} {is : List Nat} (hn : N.length = is.length) (hl : T.length = M.length) (h1 : ∀ (t i : Nat) (q : Nat × va_E), is[t]? = some i → N[t]? = some q → T[i]? = some q) (h2 : ∀ i, i ∉ is → T[i]? = M[i]?) : jput M is N = T := by
  unfold jput
  rw [← hn, List.drop_length, List.append_nil]
  apply List.ext_getElem?
  intro k
  by_cases hk : k < M.length
  · have hk2 : k < (jsets M (is.zip N)).length := by rw [jsets_len]; exact hk
    have e := List.getElem?_eq_getElem hk2
    rw [e]
    rcases jsets_get _ _ _ _ e with h | ⟨h, hno⟩
    · obtain ⟨t, a, b⟩ := zip_get is N _ _ h
      exact (h1 t k _ a b).symm
    · by_cases hm : k ∈ is
      · obtain ⟨t, ht⟩ := List.getElem?_of_mem hm
        have htl : t < N.length := by rw [hn]; exact (List.getElem?_eq_some_iff.mp ht).1
        exact absurd (List.mem_of_getElem? (i := t) (by rw [List.getElem?_zip_eq_some]; exact ⟨ht, List.getElem?_eq_getElem htl⟩)) (hno _)
      · rw [h2 k hm]
        exact h.symm
  · rw [List.getElem?_eq_none (by rw [jsets_len]; omega), List.getElem?_eq_none (by omega)]
theorem jput_by {M N T : va_W} {is : List Nat} (js : List Nat) (X : va_W) {n : Nat} (hT : T.length = n) (hM : M.length = n) (h1 : is.map (fun i => T[i]?) = N.map some) (g1 : js.map (fun i => T[i]?) = X.map some) (g2 : js.map (fun i => M[i]?) = X.map some) (h3 : (List.range n).all (fun i => is.contains i || js.contains i) = true) : jput M is N = T := by
  have hn : is.length = N.length := by have := congrArg List.length h1; simpa using this
  have h2 := g1.trans g2.symm
  subst hM
  refine jput_eq hn.symm hT (fun t i q a b => ?_) (fun i hi => ?_)
  · obtain ⟨c, h4, h5⟩ := map_get h1 a
    cases b.symm.trans h4
    exact h5
  · by_cases hk : i < M.length
    · have h4 := List.all_eq_true.mp h3 i (List.mem_range.mpr hk)
      rw [Bool.or_eq_true] at h4
      rcases h4 with h4 | h4
      · exact absurd (List.contains_iff_mem.mp h4) hi
      · exact List.map_inj_left.mp h2 i (List.contains_iff_mem.mp h4)
    · rw [List.getElem?_eq_none (by omega), List.getElem?_eq_none (by omega)]

set_option maxRecDepth 100000 in
set_option maxHeartbeats 4000000 in
theorem st_tree (E : jD) (ad ma : Nat → Nat) (C M : va_W) (hRel : Rel E ad ma C M) (z1 : Int) (hz1 : jr z1) : StepI E ad ma Y_X6_tree Y_X7_tree [.ref (ad 0), .int (iI z1)] [.ref (ma 0), .int (iI z1)] C M := by
  refine Rel_elim (P := fun C M => StepI E ad ma Y_X6_tree Y_X7_tree [.ref (ad 0), .int (iI z1)] [.ref (ma 0), .int (iI z1)] C M) hRel ?_
  intro ra ia fnd ask fm nr rr wd N nc f sh mm w pl H hp hq kw kn kf nd pa de sz fi mt md mi tw tb tn tf tsh tmm tws tpl thr ask2 rw0 it md0 mm2 ua uw kp kni kwi pi pd ab pal hA hR hX hK hF hask hmm
  have hn := iX_n hX
  by_cases hb : z1 < 0 ∨ 4 ≤ z1
  · refine ⟨iI (-1), (fun N0 => N0 = CW E ad ra ia fnd ask fm nr rr (wd : Int) ((nB N wd : Nat) : Int) nc f sh mm w pl ((List.length H : Nat) : Int) hp hq kw kn kf (nd : Int) pa de sz fi mt md mi tw tb tn tf tsh tmm tws tpl), (fun N0 => N0 = MW E ma 0 ask2 fnd fm nr rw0 (N : Int) (wd : Int) it md0 mm2 ua uw ((List.length H : Nat) : Int) kp kni kwi pi pd (nd : Int) ab pal), ?_, fun N0 h => by subst h; rfl, ?_, fun N0 h => by subst h; rfl, ?_⟩
    · refine (MC.frame (M := CW E ad ra ia fnd ask fm nr rr (wd : Int) ((nB N wd : Nat) : Int) nc f sh mm w pl ((List.length H : Nat) : Int) hp hq kw kn kf (nd : Int) pa de sz fi mt md mi tw tb tn tf tsh tmm tws tpl) [0] (c_X6_tree_bad E (ad 0) (ad 1) (ad 17) (ad 24) (ad 10) (ad 27) (ad 42) fnd ask z1 hz1 hb) rfl rfl (by rintro _ _ ⟨rfl, rfl⟩; rfl)).mono ?_
      rintro _ _ ⟨_, ⟨rfl, rfl⟩, rfl⟩
      exact ⟨rfl, rfl⟩
    · refine (MC.frame (M := MW E ma thr ask2 fnd fm nr rw0 (N : Int) (wd : Int) it md0 mm2 ua uw ((List.length H : Nat) : Int) kp kni kwi pi pd (nd : Int) ab pal) [0] (c_X7_tree_bad E fnd ask2 (wd : Int) (N : Int) mm2 ((List.length H : Nat) : Int) (nd : Int) (ma 0) (ma 1) (ma 2) (ma 3) (ma 4) (ma 5) (ma 6) (ma 7) (ma 8) (ma 9) (ma 10) (ma 11) (ma 12) thr pd pal z1 hz1 hb) rfl rfl (by rintro _ _ ⟨rfl, rfl⟩; rfl)).mono ?_
      rintro _ _ ⟨_, ⟨rfl, rfl⟩, rfl⟩
      exact ⟨rfl, rfl⟩
    · rintro _ _ rfl rfl
      exact ⟨ra, ia, fnd, ask, fm, nr, rr, wd, N, nc, f, sh, mm, w, pl, H, hp, hq, kw, kn, kf, nd, pa, de, sz, fi, mt, md, mi, tw, tb, tn, tf, tsh, tmm, tws, tpl, 0, ask2, rw0, it, md0, mm2, ua, uw, kp, kni, kwi, pi, pd, ab, pal, rfl, rfl, hA, hR, hX, hK, hF, hask, hmm⟩
  · obtain ⟨r, rfl⟩ : ∃ q : Nat, z1 = (q : Int) := ⟨z1.toNat, by omega⟩
    have hr4 : r < 4 := by omega
    obtain ⟨hN, hrw⟩ := hR r hr4
    have hra := hA.1 r hr4
    by_cases h0 : nr r < 1 ∨ 24 < nr r
    · obtain ⟨c, hc⟩ : ∃ c : Int, (nr r < 0 ∧ c = 1) ∨ (0 ≤ nr r ∧ (nr r < 1 ∨ 24 < nr r) ∧ c = 3) := by
        by_cases h1 : nr r < 0
        · exact ⟨1, Or.inl ⟨h1, rfl⟩⟩
        · exact ⟨3, Or.inr ⟨by omega, by omega, rfl⟩⟩
      refine ⟨iI (rz c), (fun N0 => N0 = CW E ad ra ia (rf c fnd) ask (rm c fm) nr rr (wd : Int) ((nB N wd : Nat) : Int) nc f sh mm w pl ((List.length H : Nat) : Int) hp hq kw kn kf (nd : Int) pa de sz fi mt md mi tw tb tn tf tsh tmm tws tpl), (fun N0 => N0 = MW E ma 0 ask2 (rf c fnd) (rm c fm) nr rw0 (N : Int) (wd : Int) it md0 mm2 ua uw ((List.length H : Nat) : Int) kp kni kwi pi pd (nd : Int) ab pal), ?_, fun N0 h => by subst h; rfl, ?_, fun N0 h => by subst h; rfl, ?_⟩
      · refine (MC.frame (M := CW E ad ra ia fnd ask fm nr rr (wd : Int) ((nB N wd : Nat) : Int) nc f sh mm w pl ((List.length H : Nat) : Int) hp hq kw kn kf (nd : Int) pa de sz fi mt md mi tw tb tn tf tsh tmm tws tpl) [0, 42, 1, (2 + 2 * r)] (c_X6_tree_no E (ad 0) (ad 1) (ad 17) (ad 24) (ad 10) (ad 27) (ad 42) (ad (2 + 2 * r)) (ad (3 + 2 * r)) fnd ask (nr r) fm ra r c (by omega) hra hN hc) (by rcases lt4 hr4 with rfl | rfl | rfl | rfl <;> rfl) (by rcases lt4 hr4 with rfl | rfl | rfl | rfl <;> rfl) (by rintro _ _ ⟨rfl, rfl⟩; rfl)).mono ?_
        rintro _ _ ⟨_, ⟨rfl, rfl⟩, rfl⟩
        exact ⟨rfl, (by rcases lt4 hr4 with rfl | rfl | rfl | rfl <;> rfl)⟩
      · refine (MC.frame (M := MW E ma thr ask2 fnd fm nr rw0 (N : Int) (wd : Int) it md0 mm2 ua uw ((List.length H : Nat) : Int) kp kni kwi pi pd (nd : Int) ab pal) [0, 1, 3] (c_X7_tree_no E fnd ask2 (wd : Int) (N : Int) mm2 ((List.length H : Nat) : Int) (nd : Int) fm (ma 0) (ma 1) (ma 2) (ma 3) (ma 4) (ma 5) (ma 6) (ma 7) (ma 8) (ma 9) (ma 10) (ma 11) (ma 12) thr pd pal nr r c (by omega) hN hc) rfl rfl (by rintro _ _ ⟨rfl, rfl⟩; rfl)).mono ?_
        rintro _ _ ⟨_, ⟨rfl, rfl⟩, rfl⟩
        exact ⟨rfl, rfl⟩
      · rintro _ _ rfl rfl
        exact ⟨ra, ia, (rf c fnd), ask, (rm c fm), nr, rr, wd, N, nc, f, sh, mm, w, pl, H, hp, hq, kw, kn, kf, nd, pa, de, sz, fi, mt, md, mi, tw, tb, tn, tf, tsh, tmm, tws, tpl, 0, ask2, rw0, it, md0, mm2, ua, uw, kp, kni, kwi, pi, pd, ab, pal, rfl, rfl, hA, hR, hX, hK, hF, hask, hmm⟩
    · obtain ⟨n2, hn2⟩ : ∃ x : Nat, nr r = (x : Int) := ⟨(nr r).toNat, by omega⟩
      have hpp : ∀ k, k < n2 → tI (rr r) k = (fun k => (rw0 (48 * r + k)).toInt) k := fun k hk => by
        show (rr r k).toInt = (rw0 (48 * r + k)).toInt
        rw [hrw k (by omega)]
      by_cases hT : toldP (tI (rr r)) n2
      · have hnr0 : setI nr r (n2 : Int) = nr := setI_same hn2
        refine ⟨iI ((n2 : Int)), (fun N0 => ∃ pa2 de2 sz2 fi2 mt2 md2 mi2 tw2 tb2 tf2 tsh2 tmm2 tws2 tpl2, N0 = CW E ad ra ia fnd ask fm nr rr (wd : Int) ((nB N wd : Nat) : Int) nc f sh mm w pl ((List.length H : Nat) : Int) hp hq kw kn kf (n2 : Int) pa2 de2 sz2 fi2 mt2 md2 mi2 tw2 tb2 ((2 * n2 - 1 : Nat) : Int) tf2 tsh2 tmm2 tws2 tpl2 ∧ famOK (tI (rr r)) n2 pa2 de2 sz2 fi2 mt2 tf2), (fun N0 => N0 = MW E ma 0 ask2 fnd fm nr rw0 (N : Int) (wd : Int) it md0 mm2 ua uw ((List.length H : Nat) : Int) kp kni kwi pi pd (n2 : Int) (cpF rw0 ab (48 * r) 0 n2) pal), ?_, fun N0 h => by obtain ⟨pa2, de2, sz2, fi2, mt2, md2, mi2, tw2, tb2, tf2, tsh2, tmm2, tws2, tpl2, rfl, hfam⟩ := h; rfl, ?_, fun N0 h => by subst h; rfl, ?_⟩
        · rw [← hnr0]
          refine (MC.frame (M := CW E ad ra ia fnd ask fm (setI nr r (n2 : Int)) rr (wd : Int) ((nB N wd : Nat) : Int) nc f sh mm w pl ((List.length H : Nat) : Int) hp hq kw kn kf (nd : Int) pa de sz fi mt md mi tw tb tn tf tsh tmm tws tpl) [0, 1, (2 + 2 * r), (3 + 2 * r), 27, 28, 29, 30, 31, 32, 33, 34, 35, 36, 37, 38, 39, 40, 41] (c_X6_tree_ok E (ad 0) (ad 1) (ad 17) (ad 24) (ad 10) (ad 27) (ad 42) (ad (2 + 2 * r)) (ad (3 + 2 * r)) (ad 28) (ad 29) (ad 30) (ad 31) (ad 32) (ad 33) (ad 34) (ad 35) (ad 36) (ad 37) (ad 38) (ad 39) (ad 40) (ad 41) fnd ask (nd : Int) md tw tb tn tmm ra (rr r) pa de sz fi mt mi tf tsh tpl tws r n2 (by omega) hra (by omega) hT (tour_ok hT (by omega))) (by rcases lt4 hr4 with rfl | rfl | rfl | rfl <;> rfl) (by rcases lt4 hr4 with rfl | rfl | rfl | rfl <;> rfl) (fun rr0 N0 h => by obtain ⟨pa2, de2, sz2, fi2, mt2, md2, mi2, tw2, tb2, tf2, tsh2, tmm2, tws2, tpl2, e1, e2, hfam⟩ := h; rw [e2]; rfl)).mono ?_
          intro rr0 N0 h
          obtain ⟨Nc, h1, h2⟩ := h
          obtain ⟨pa2, de2, sz2, fi2, mt2, md2, mi2, tw2, tb2, tf2, tsh2, tmm2, tws2, tpl2, e1, e2, hfam⟩ := h1
          refine ⟨e1, pa2, de2, sz2, fi2, mt2, md2, mi2, tw2, tb2, tf2, tsh2, tmm2, tws2, tpl2, ?_, hfam⟩
          rw [h2, e2]
          exact jput_by [2, 3, 4, 5, 6, 7, 8, 9, 10, 11, 12, 13, 14, 15, 16, 17, 18, 19, 20, 21, 22, 23, 24, 25, 26, 42] [((ad 2), jO 4 [.ref (ad 3), .int (iI ((setI nr r (n2 : Int)) 0))]), ((ad 3), jA E 48 (rr 0)), ((ad 4), jO 4 [.ref (ad 5), .int (iI ((setI nr r (n2 : Int)) 1))]), ((ad 5), jA E 48 (rr 1)), ((ad 6), jO 4 [.ref (ad 7), .int (iI ((setI nr r (n2 : Int)) 2))]), ((ad 7), jA E 48 (rr 2)), ((ad 8), jO 4 [.ref (ad 9), .int (iI ((setI nr r (n2 : Int)) 3))]), ((ad 9), jA E 48 (rr 3)), ((ad 10), jR E 3 2 ia), ((ad 11), jO 2 [.ref (ad 12), .int (iI (kw 0))]), ((ad 12), jO 4 [.ref (ad 13), .int (iI (kn 0))]), ((ad 13), jA E 48 (kf 0)), ((ad 14), jO 2 [.ref (ad 15), .int (iI (kw 1))]), ((ad 15), jO 4 [.ref (ad 16), .int (iI (kn 1))]), ((ad 16), jA E 48 (kf 1)), ((ad 17), jO 3 [.ref (ad 18), .ref (ad 20), .ref (ad 21), .ref (ad 23), .int (iI (wd : Int)), .int (iI ((nB N wd : Nat) : Int))]), ((ad 18), jO 4 [.ref (ad 19), .int (iI nc)]), ((ad 19), jA E 48 f), ((ad 20), jA E 48 sh), ((ad 21), jO 5 [.ref (ad 22), .int (iI mm)]), ((ad 22), jL E 64 w), ((ad 23), jA E 6 pl), ((ad 24), jO 1 [.ref (ad 25), .ref (ad 26), .int (iI ((List.length H : Nat) : Int))]), ((ad 25), jA E 10 hp), ((ad 26), jA E 10 hq), ((ad 42), jA E 5 (aI fm))] rfl rfl (by rcases lt4 hr4 with rfl | rfl | rfl | rfl <;> rfl) rfl rfl (by rcases lt4 hr4 with rfl | rfl | rfl | rfl <;> rfl)
        · refine (MC.frame (M := MW E ma thr ask2 fnd fm nr rw0 (N : Int) (wd : Int) it md0 mm2 ua uw ((List.length H : Nat) : Int) kp kni kwi pi pd (nd : Int) ab pal) [0, 2, 3, 12] (c_X7_tree_ok E fnd ask2 (wd : Int) (N : Int) mm2 ((List.length H : Nat) : Int) (nd : Int) (ma 0) (ma 1) (ma 2) (ma 3) (ma 4) (ma 5) (ma 6) (ma 7) (ma 8) (ma 9) (ma 10) (ma 11) (ma 12) thr pd pal nr rw0 ab r n2 (by omega) hn2 (by omega) (told_cg hpp hT)) rfl rfl (by rintro _ _ ⟨rfl, rfl⟩; rfl)).mono ?_
          rintro _ _ ⟨_, ⟨rfl, rfl⟩, rfl⟩
          exact ⟨rfl, rfl⟩
        · rintro _ _ ⟨pa2, de2, sz2, fi2, mt2, md2, mi2, tw2, tb2, tf2, tsh2, tmm2, tws2, tpl2, rfl, hfam⟩ rfl
          exact ⟨ra, ia, fnd, ask, fm, nr, rr, wd, N, nc, f, sh, mm, w, pl, H, hp, hq, kw, kn, kf, n2, pa2, de2, sz2, fi2, mt2, md2, mi2, tw2, tb2, ((2 * n2 - 1 : Nat) : Int), tf2, tsh2, tmm2, tws2, tpl2, 0, ask2, rw0, it, md0, mm2, ua, uw, kp, kni, kwi, pi, pd, (cpF rw0 ab (48 * r) 0 n2), pal, rfl, rfl, hA, hR, hX, hK, (Or.inr ⟨by omega, by omega, rfl, tI (rr r), hT, hfam, fun k hk => by
            unfold cpF
            rw [if_pos (by omega), Nat.sub_zero]
            exact (hpp k hk).symm⟩), hask, hmm⟩
      · have hnr0 : setI nr r (n2 : Int) = nr := setI_same hn2
        refine ⟨iI (rz 4), (fun N0 => N0 = CW E ad ra ia (rf 4 fnd) ask (rm 4 fm) nr rr (wd : Int) ((nB N wd : Nat) : Int) nc f sh mm w pl ((List.length H : Nat) : Int) hp hq kw kn kf (nd : Int) pa de sz fi mt md mi tw tb tn tf tsh tmm tws tpl), (fun N0 => N0 = MW E ma 0 ask2 (rf 4 fnd) (rm 4 fm) nr rw0 (N : Int) (wd : Int) it md0 mm2 ua uw ((List.length H : Nat) : Int) kp kni kwi pi pd (nd : Int) ab pal), ?_, fun N0 h => by subst h; rfl, ?_, fun N0 h => by subst h; rfl, ?_⟩
        · rw [← hnr0]
          refine (MC.frame (M := CW E ad ra ia fnd ask fm (setI nr r (n2 : Int)) rr (wd : Int) ((nB N wd : Nat) : Int) nc f sh mm w pl ((List.length H : Nat) : Int) hp hq kw kn kf (nd : Int) pa de sz fi mt md mi tw tb tn tf tsh tmm tws tpl) [0, 42, 1, (2 + 2 * r), (3 + 2 * r)] (c_X6_tree_un E (ad 0) (ad 1) (ad 17) (ad 24) (ad 10) (ad 27) (ad 42) (ad (2 + 2 * r)) (ad (3 + 2 * r)) fnd ask fm ra (rr r) r n2 4 (by omega) hra (by omega) hT (by omega)) (by rcases lt4 hr4 with rfl | rfl | rfl | rfl <;> rfl) (by rcases lt4 hr4 with rfl | rfl | rfl | rfl <;> rfl) (by rintro _ _ ⟨rfl, rfl⟩; rfl)).mono ?_
          rintro _ _ ⟨_, ⟨rfl, rfl⟩, rfl⟩
          exact ⟨rfl, (by rcases lt4 hr4 with rfl | rfl | rfl | rfl <;> rfl)⟩
        · refine (MC.frame (M := MW E ma thr ask2 fnd fm nr rw0 (N : Int) (wd : Int) it md0 mm2 ua uw ((List.length H : Nat) : Int) kp kni kwi pi pd (nd : Int) ab pal) [0, 1, 2, 3] (c_X7_tree_un E fnd ask2 (wd : Int) (N : Int) mm2 ((List.length H : Nat) : Int) (nd : Int) fm (ma 0) (ma 1) (ma 2) (ma 3) (ma 4) (ma 5) (ma 6) (ma 7) (ma 8) (ma 9) (ma 10) (ma 11) (ma 12) thr pd pal nr rw0 r n2 4 (by omega) hn2 (by omega) (fun h => hT (told_cg (fun k hk => (hpp k hk).symm) h)) (by omega)) rfl rfl (by rintro _ _ ⟨rfl, rfl⟩; rfl)).mono ?_
          rintro _ _ ⟨_, ⟨rfl, rfl⟩, rfl⟩
          exact ⟨rfl, rfl⟩
        · rintro _ _ rfl rfl
          exact ⟨ra, ia, (rf 4 fnd), ask, (rm 4 fm), nr, rr, wd, N, nc, f, sh, mm, w, pl, H, hp, hq, kw, kn, kf, nd, pa, de, sz, fi, mt, md, mi, tw, tb, tn, tf, tsh, tmm, tws, tpl, 0, ask2, rw0, it, md0, mm2, ua, uw, kp, kni, kwi, pi, pd, ab, pal, rfl, rfl, hA, hR, hX, hK, hF, hask, hmm⟩

set_option maxRecDepth 100000 in
set_option maxHeartbeats 4000000 in
theorem st_meet (E : jD) (ad ma : Nat → Nat) (C M : va_W) (hRel : Rel E ad ma C M) (z1 : Int) (z2 : Int) (hz1 : jr z1) (hz2 : jr z2) : StepI E ad ma Y_X6_meet Y_X7_meet [.ref (ad 0), .int (iI z1), .int (iI z2)] [.ref (ma 0), .int (iI z1), .int (iI z2)] C M := by
  refine Rel_elim (P := fun C M => StepI E ad ma Y_X6_meet Y_X7_meet [.ref (ad 0), .int (iI z1), .int (iI z2)] [.ref (ma 0), .int (iI z1), .int (iI z2)] C M) hRel ?_
  intro ra ia fnd ask fm nr rr wd N nc f sh mm w pl H hp hq kw kn kf nd pa de sz fi mt md mi tw tb tn tf tsh tmm tws tpl thr ask2 rw0 it md0 mm2 ua uw kp kni kwi pi pd ab pal hA hR hX hK hF hask hmm
  have hn := iX_n hX
  have hnd : nd ≤ 24 := by
    rcases hF with h | h
    · omega
    · exact h.2.1
  by_cases hok : 1 ≤ nd ∧ 0 ≤ z1 ∧ z1 < nd ∧ 0 ≤ z2 ∧ z2 < nd
  · obtain ⟨u, rfl⟩ : ∃ q : Nat, z1 = (q : Int) := ⟨z1.toNat, by omega⟩
    obtain ⟨v, rfl⟩ : ∃ q : Nat, z2 = (q : Int) := ⟨z2.toNat, by omega⟩
    have hu : u < nd := by omega
    have hv : v < nd := by omega
    obtain ⟨n1, n24, rfl, p, hT, hfam, hab⟩ : 1 ≤ nd ∧ nd ≤ 24 ∧ tn = ((2 * nd - 1 : Nat) : Int) ∧ ∃ p, toldP p nd ∧ famOK p nd pa de sz fi mt tf ∧ ∀ k, k < nd → (ab k).toInt = p k := by
      rcases hF with h | h
      · omega
      · exact h
    obtain ⟨f1, a0, e1, a47⟩ := fam_fi hT hfam hu
    obtain ⟨f2, b0, e2, b47⟩ := fam_fi hT hfam hv
    obtain ⟨m1, m2⟩ := fam_meet hT n24 hfam hu hv e1 e2
    refine ⟨iI ((mt (lsF (tI tf) (min a0 b0) (max a0 b0 - min a0 b0))).toInt), (fun N0 => N0 = CW E ad ra ia fnd ask fm nr rr (wd : Int) ((nB N wd : Nat) : Int) nc f sh mm w pl ((List.length H : Nat) : Int) hp hq kw kn kf (nd : Int) pa de sz fi mt md mi tw tb ((2 * nd - 1 : Nat) : Int) tf tsh tmm tws tpl), (fun N0 => N0 = MW E ma 0 ask2 fnd fm nr rw0 (N : Int) (wd : Int) it md0 mm2 ua uw ((List.length H : Nat) : Int) kp kni kwi pi pd (nd : Int) ab pal), ?_, fun N0 h => by subst h; rfl, ?_, fun N0 h => by subst h; rfl, ?_⟩
    · refine (MC.frame (M := CW E ad ra ia fnd ask fm nr rr (wd : Int) ((nB N wd : Nat) : Int) nc f sh mm w pl ((List.length H : Nat) : Int) hp hq kw kn kf (nd : Int) pa de sz fi mt md mi tw tb ((2 * nd - 1 : Nat) : Int) tf tsh tmm tws tpl) [0, 42, 27, 31, 32, 35, 36, 37] (c_X6_meet_ok E (ad 0) (ad 1) (ad 17) (ad 24) (ad 10) (ad 27) (ad 42) (ad 28) (ad 29) (ad 30) (ad 31) (ad 32) (ad 33) (ad 35) (ad 36) (ad 37) (ad 38) (ad 39) (ad 41) fnd ask tw tb fm fi mt tf nd (2 * nd - 1) u v a0 b0 (by omega) hu hv (by rw [f1, e1]) (by rw [f2, e2]) (by omega) (by omega)) rfl rfl (by rintro _ _ ⟨rfl, rfl⟩; rfl)).mono ?_
      rintro _ _ ⟨_, ⟨rfl, rfl⟩, rfl⟩
      exact ⟨rfl, rfl⟩
    · refine (MC.frame (M := MW E ma thr ask2 fnd fm nr rw0 (N : Int) (wd : Int) it md0 mm2 ua uw ((List.length H : Nat) : Int) kp kni kwi pi pd (nd : Int) ab pal) [0, 12] (c_X7_meet_ok E fnd ask2 (wd : Int) (N : Int) mm2 ((List.length H : Nat) : Int) (ma 0) (ma 1) (ma 2) (ma 3) (ma 4) (ma 5) (ma 6) (ma 7) (ma 8) (ma 9) (ma 10) (ma 11) (ma 12) thr pd pal ab nd p u v n24 hab hT.1 hT.2.2 hu hv (one_root hT hu hv)) rfl rfl (by rintro _ _ ⟨rfl, rfl⟩; rfl)).mono ?_
      rintro _ _ ⟨_, ⟨rfl, rfl⟩, rfl⟩
      exact ⟨congrArg (fun z => some (Value.int (iI z))) (by rw [m1]; exact (iI_t ⟨by omega, by omega⟩).symm), rfl⟩
    · rintro _ _ rfl rfl
      exact ⟨ra, ia, fnd, ask, fm, nr, rr, wd, N, nc, f, sh, mm, w, pl, H, hp, hq, kw, kn, kf, nd, pa, de, sz, fi, mt, md, mi, tw, tb, ((2 * nd - 1 : Nat) : Int), tf, tsh, tmm, tws, tpl, 0, ask2, rw0, it, md0, mm2, ua, uw, kp, kni, kwi, pi, pd, ab, pal, rfl, rfl, hA, hR, hX, hK, hF, hask, hmm⟩
  · obtain ⟨c, hc⟩ : ∃ c : Int, ((nd : Int) = 0 ∧ c = -2) ∨ (¬ (nd : Int) = 0 ∧ (z1 < 0 ∨ (nd : Int) ≤ z1 ∨ z2 < 0 ∨ (nd : Int) ≤ z2) ∧ c = 2) := by
      by_cases h0 : nd = 0
      · exact ⟨-2, Or.inl ⟨by omega, rfl⟩⟩
      · exact ⟨2, Or.inr ⟨by omega, by omega, rfl⟩⟩
    refine ⟨iI (rz c), (fun N0 => N0 = CW E ad ra ia (rf c fnd) ask (rm c fm) nr rr (wd : Int) ((nB N wd : Nat) : Int) nc f sh mm w pl ((List.length H : Nat) : Int) hp hq kw kn kf (nd : Int) pa de sz fi mt md mi tw tb tn tf tsh tmm tws tpl), (fun N0 => N0 = MW E ma 0 ask2 (rf c fnd) (rm c fm) nr rw0 (N : Int) (wd : Int) it md0 mm2 ua uw ((List.length H : Nat) : Int) kp kni kwi pi pd (nd : Int) ab pal), ?_, fun N0 h => by subst h; rfl, ?_, fun N0 h => by subst h; rfl, ?_⟩
    · refine (MC.frame (M := CW E ad ra ia fnd ask fm nr rr (wd : Int) ((nB N wd : Nat) : Int) nc f sh mm w pl ((List.length H : Nat) : Int) hp hq kw kn kf (nd : Int) pa de sz fi mt md mi tw tb tn tf tsh tmm tws tpl) [0, 42, 27] (c_X6_meet_no E (ad 0) (ad 1) (ad 17) (ad 24) (ad 10) (ad 27) (ad 42) (ad 28) (ad 29) (ad 30) (ad 31) (ad 32) (ad 33) (ad 35) fnd ask (nd : Int) fm z1 z2 c (by omega) hz1 hz2 hc) rfl rfl (by rintro _ _ ⟨rfl, rfl⟩; rfl)).mono ?_
      rintro _ _ ⟨_, ⟨rfl, rfl⟩, rfl⟩
      exact ⟨rfl, rfl⟩
    · refine (MC.frame (M := MW E ma thr ask2 fnd fm nr rw0 (N : Int) (wd : Int) it md0 mm2 ua uw ((List.length H : Nat) : Int) kp kni kwi pi pd (nd : Int) ab pal) [0, 1] (c_X7_meet_no E fnd ask2 (wd : Int) (N : Int) mm2 ((List.length H : Nat) : Int) (nd : Int) fm (ma 0) (ma 1) (ma 2) (ma 3) (ma 4) (ma 5) (ma 6) (ma 7) (ma 8) (ma 9) (ma 10) (ma 11) (ma 12) thr pd pal z1 z2 c (by omega) hz1 hz2 hc) rfl rfl (by rintro _ _ ⟨rfl, rfl⟩; rfl)).mono ?_
      rintro _ _ ⟨_, ⟨rfl, rfl⟩, rfl⟩
      exact ⟨rfl, rfl⟩
    · rintro _ _ rfl rfl
      exact ⟨ra, ia, (rf c fnd), ask, (rm c fm), nr, rr, wd, N, nc, f, sh, mm, w, pl, H, hp, hq, kw, kn, kf, nd, pa, de, sz, fi, mt, md, mi, tw, tb, tn, tf, tsh, tmm, tws, tpl, 0, ask2, rw0, it, md0, mm2, ua, uw, kp, kni, kwi, pi, pd, ab, pal, rfl, rfl, hA, hR, hX, hK, hF, hask, hmm⟩

set_option maxRecDepth 100000 in
set_option maxHeartbeats 4000000 in
theorem st_apart (E : jD) (ad ma : Nat → Nat) (C M : va_W) (hRel : Rel E ad ma C M) (z1 : Int) (z2 : Int) (hz1 : jr z1) (hz2 : jr z2) : StepI E ad ma Y_X6_apart Y_X7_apart [.ref (ad 0), .int (iI z1), .int (iI z2)] [.ref (ma 0), .int (iI z1), .int (iI z2)] C M := by
  refine Rel_elim (P := fun C M => StepI E ad ma Y_X6_apart Y_X7_apart [.ref (ad 0), .int (iI z1), .int (iI z2)] [.ref (ma 0), .int (iI z1), .int (iI z2)] C M) hRel ?_
  intro ra ia fnd ask fm nr rr wd N nc f sh mm w pl H hp hq kw kn kf nd pa de sz fi mt md mi tw tb tn tf tsh tmm tws tpl thr ask2 rw0 it md0 mm2 ua uw kp kni kwi pi pd ab pal hA hR hX hK hF hask hmm
  have hn := iX_n hX
  have hnd : nd ≤ 24 := by
    rcases hF with h | h
    · omega
    · exact h.2.1
  by_cases hok : 1 ≤ nd ∧ 0 ≤ z1 ∧ z1 < nd ∧ 0 ≤ z2 ∧ z2 < nd
  · obtain ⟨u, rfl⟩ : ∃ q : Nat, z1 = (q : Int) := ⟨z1.toNat, by omega⟩
    obtain ⟨v, rfl⟩ : ∃ q : Nat, z2 = (q : Int) := ⟨z2.toNat, by omega⟩
    have hu : u < nd := by omega
    have hv : v < nd := by omega
    obtain ⟨n1, n24, rfl, p, hT, hfam, hab⟩ : 1 ≤ nd ∧ nd ≤ 24 ∧ tn = ((2 * nd - 1 : Nat) : Int) ∧ ∃ p, toldP p nd ∧ famOK p nd pa de sz fi mt tf ∧ ∀ k, k < nd → (ab k).toInt = p k := by
      rcases hF with h | h
      · omega
      · exact h
    obtain ⟨f1, a0, e1, a47⟩ := fam_fi hT hfam hu
    obtain ⟨f2, b0, e2, b47⟩ := fam_fi hT hfam hv
    obtain ⟨m1, m2⟩ := fam_meet hT n24 hfam hu hv e1 e2
    refine ⟨iI ((srF p nd u : Int) + srF p nd v - 2 * (srF p nd (upF p (srF p nd u - mdF p nd u v (min (srF p nd u) (srF p nd v))) u) : Nat)), (fun N0 => N0 = CW E ad ra ia fnd ask fm nr rr (wd : Int) ((nB N wd : Nat) : Int) nc f sh mm w pl ((List.length H : Nat) : Int) hp hq kw kn kf (nd : Int) pa de sz fi mt md mi tw tb ((2 * nd - 1 : Nat) : Int) tf tsh tmm tws tpl), (fun N0 => N0 = MW E ma 0 ask2 fnd fm nr rw0 (N : Int) (wd : Int) it md0 mm2 ua uw ((List.length H : Nat) : Int) kp kni kwi pi pd (nd : Int) ab pal), ?_, fun N0 h => by subst h; rfl, ?_, fun N0 h => by subst h; rfl, ?_⟩
    · refine (MC.frame (M := CW E ad ra ia fnd ask fm nr rr (wd : Int) ((nB N wd : Nat) : Int) nc f sh mm w pl ((List.length H : Nat) : Int) hp hq kw kn kf (nd : Int) pa de sz fi mt md mi tw tb ((2 * nd - 1 : Nat) : Int) tf tsh tmm tws tpl) [0, 42, 27, 31, 32, 35, 36, 37, 29] (c_X6_apart_ok E (ad 0) (ad 1) (ad 17) (ad 24) (ad 10) (ad 27) (ad 42) (ad 28) (ad 29) (ad 30) (ad 31) (ad 32) (ad 33) (ad 35) (ad 36) (ad 37) (ad 38) (ad 39) (ad 41) fnd ask tw tb fm de fi mt tf nd (2 * nd - 1) u v a0 b0 (upF p (srF p nd u - mdF p nd u v (min (srF p nd u) (srF p nd v))) u) (srF p nd u : Nat) (srF p nd v : Nat) (srF p nd (upF p (srF p nd u - mdF p nd u v (min (srF p nd u) (srF p nd v))) u) : Nat) (by omega) hu hv (by rw [f1, e1]) (by rw [f2, e2]) (by omega) (by omega) m1 (by omega) (hfam.2.1 u hu) (hfam.2.1 v hv) (hfam.2.1 _ m2)) rfl rfl (by rintro _ _ ⟨rfl, rfl⟩; rfl)).mono ?_
      rintro _ _ ⟨_, ⟨rfl, rfl⟩, rfl⟩
      exact ⟨rfl, rfl⟩
    · refine (MC.frame (M := MW E ma thr ask2 fnd fm nr rw0 (N : Int) (wd : Int) it md0 mm2 ua uw ((List.length H : Nat) : Int) kp kni kwi pi pd (nd : Int) ab pal) [0, 12] (c_X7_apart_ok E fnd ask2 (wd : Int) (N : Int) mm2 ((List.length H : Nat) : Int) (ma 0) (ma 1) (ma 2) (ma 3) (ma 4) (ma 5) (ma 6) (ma 7) (ma 8) (ma 9) (ma 10) (ma 11) (ma 12) thr pd pal ab nd p u v n24 hab hT.1 hT.2.2 hu hv (one_root hT hu hv)) rfl rfl (by rintro _ _ ⟨rfl, rfl⟩; rfl)).mono ?_
      rintro _ _ ⟨_, ⟨rfl, rfl⟩, rfl⟩
      exact ⟨rfl, rfl⟩
    · rintro _ _ rfl rfl
      exact ⟨ra, ia, fnd, ask, fm, nr, rr, wd, N, nc, f, sh, mm, w, pl, H, hp, hq, kw, kn, kf, nd, pa, de, sz, fi, mt, md, mi, tw, tb, ((2 * nd - 1 : Nat) : Int), tf, tsh, tmm, tws, tpl, 0, ask2, rw0, it, md0, mm2, ua, uw, kp, kni, kwi, pi, pd, ab, pal, rfl, rfl, hA, hR, hX, hK, hF, hask, hmm⟩
  · obtain ⟨c, hc⟩ : ∃ c : Int, ((nd : Int) = 0 ∧ c = -2) ∨ (¬ (nd : Int) = 0 ∧ (z1 < 0 ∨ (nd : Int) ≤ z1 ∨ z2 < 0 ∨ (nd : Int) ≤ z2) ∧ c = 2) := by
      by_cases h0 : nd = 0
      · exact ⟨-2, Or.inl ⟨by omega, rfl⟩⟩
      · exact ⟨2, Or.inr ⟨by omega, by omega, rfl⟩⟩
    refine ⟨iI (rz c), (fun N0 => N0 = CW E ad ra ia (rf c fnd) ask (rm c fm) nr rr (wd : Int) ((nB N wd : Nat) : Int) nc f sh mm w pl ((List.length H : Nat) : Int) hp hq kw kn kf (nd : Int) pa de sz fi mt md mi tw tb tn tf tsh tmm tws tpl), (fun N0 => N0 = MW E ma 0 ask2 (rf c fnd) (rm c fm) nr rw0 (N : Int) (wd : Int) it md0 mm2 ua uw ((List.length H : Nat) : Int) kp kni kwi pi pd (nd : Int) ab pal), ?_, fun N0 h => by subst h; rfl, ?_, fun N0 h => by subst h; rfl, ?_⟩
    · refine (MC.frame (M := CW E ad ra ia fnd ask fm nr rr (wd : Int) ((nB N wd : Nat) : Int) nc f sh mm w pl ((List.length H : Nat) : Int) hp hq kw kn kf (nd : Int) pa de sz fi mt md mi tw tb tn tf tsh tmm tws tpl) [0, 42, 27] (c_X6_apart_no E (ad 0) (ad 1) (ad 17) (ad 24) (ad 10) (ad 27) (ad 42) (ad 28) (ad 29) (ad 30) (ad 31) (ad 32) (ad 33) (ad 35) fnd ask (nd : Int) fm z1 z2 c (by omega) hz1 hz2 hc) rfl rfl (by rintro _ _ ⟨rfl, rfl⟩; rfl)).mono ?_
      rintro _ _ ⟨_, ⟨rfl, rfl⟩, rfl⟩
      exact ⟨rfl, rfl⟩
    · refine (MC.frame (M := MW E ma thr ask2 fnd fm nr rw0 (N : Int) (wd : Int) it md0 mm2 ua uw ((List.length H : Nat) : Int) kp kni kwi pi pd (nd : Int) ab pal) [0, 1] (c_X7_apart_no E fnd ask2 (wd : Int) (N : Int) mm2 ((List.length H : Nat) : Int) (nd : Int) fm (ma 0) (ma 1) (ma 2) (ma 3) (ma 4) (ma 5) (ma 6) (ma 7) (ma 8) (ma 9) (ma 10) (ma 11) (ma 12) thr pd pal z1 z2 c (by omega) hz1 hz2 hc) rfl rfl (by rintro _ _ ⟨rfl, rfl⟩; rfl)).mono ?_
      rintro _ _ ⟨_, ⟨rfl, rfl⟩, rfl⟩
      exact ⟨rfl, rfl⟩
    · rintro _ _ rfl rfl
      exact ⟨ra, ia, (rf c fnd), ask, (rm c fm), nr, rr, wd, N, nc, f, sh, mm, w, pl, H, hp, hq, kw, kn, kf, nd, pa, de, sz, fi, mt, md, mi, tw, tb, tn, tf, tsh, tmm, tws, tpl, 0, ask2, rw0, it, md0, mm2, ua, uw, kp, kni, kwi, pi, pd, ab, pal, rfl, rfl, hA, hR, hX, hK, hF, hask, hmm⟩

set_option maxRecDepth 100000 in
set_option maxHeartbeats 4000000 in
theorem st_up (E : jD) (ad ma : Nat → Nat) (C M : va_W) (hRel : Rel E ad ma C M) (z1 : Int) (z2 : Int) (hz1 : jr z1) (hz2 : jr z2) : StepI E ad ma Y_X6_up Y_X7_up [.ref (ad 0), .int (iI z1), .int (iI z2)] [.ref (ma 0), .int (iI z1), .int (iI z2)] C M := by
  refine Rel_elim (P := fun C M => StepI E ad ma Y_X6_up Y_X7_up [.ref (ad 0), .int (iI z1), .int (iI z2)] [.ref (ma 0), .int (iI z1), .int (iI z2)] C M) hRel ?_
  intro ra ia fnd ask fm nr rr wd N nc f sh mm w pl H hp hq kw kn kf nd pa de sz fi mt md mi tw tb tn tf tsh tmm tws tpl thr ask2 rw0 it md0 mm2 ua uw kp kni kwi pi pd ab pal hA hR hX hK hF hask hmm
  have hn := iX_n hX
  have hnd : nd ≤ 24 := by
    rcases hF with h | h
    · omega
    · exact h.2.1
  by_cases hok : 1 ≤ nd ∧ 0 ≤ z1 ∧ z1 < nd
  · obtain ⟨u, rfl⟩ : ∃ q : Nat, z1 = (q : Int) := ⟨z1.toNat, by omega⟩
    have hu : u < nd := by omega
    by_cases hd : 0 ≤ z2
    · obtain ⟨n1, n24, rfl, p, hT, hfam, hab⟩ : 1 ≤ nd ∧ nd ≤ 24 ∧ tn = ((2 * nd - 1 : Nat) : Int) ∧ ∃ p, toldP p nd ∧ famOK p nd pa de sz fi mt tf ∧ ∀ k, k < nd → (ab k).toInt = p k := by
        rcases hF with h | h
        · omega
        · exact h
      refine ⟨iI ((if (srF p nd u : Int) < z2 then -9 else ((upF p (srF p nd u - z2.toNat) u : Nat) : Int))), (fun N0 => N0 = CW E ad ra ia fnd ask fm nr rr (wd : Int) ((nB N wd : Nat) : Int) nc f sh mm w pl ((List.length H : Nat) : Int) hp hq kw kn kf (nd : Int) pa de sz fi mt md mi tw tb ((2 * nd - 1 : Nat) : Int) tf tsh tmm tws tpl), (fun N0 => N0 = MW E ma 0 ask2 fnd fm nr rw0 (N : Int) (wd : Int) it md0 mm2 ua uw ((List.length H : Nat) : Int) kp kni kwi pi pd (nd : Int) ab pal), ?_, fun N0 h => by subst h; rfl, ?_, fun N0 h => by subst h; rfl, ?_⟩
      · refine (MC.frame (M := CW E ad ra ia fnd ask fm nr rr (wd : Int) ((nB N wd : Nat) : Int) nc f sh mm w pl ((List.length H : Nat) : Int) hp hq kw kn kf (nd : Int) pa de sz fi mt md mi tw tb ((2 * nd - 1 : Nat) : Int) tf tsh tmm tws tpl) [0, 42, 27, 28, 29] (c_X6_up_ok E (ad 0) (ad 1) (ad 17) (ad 24) (ad 10) (ad 27) (ad 42) (ad 28) (ad 29) (ad 30) (ad 31) (ad 32) (ad 33) (ad 35) fnd ask fm pa de nd u z2 p (by omega) hu hfam.1 hT.1 hfam.2.1 hd hz2) rfl rfl (by rintro _ _ ⟨rfl, rfl⟩; rfl)).mono ?_
        rintro _ _ ⟨_, ⟨rfl, rfl⟩, rfl⟩
        exact ⟨rfl, rfl⟩
      · refine (MC.frame (M := MW E ma thr ask2 fnd fm nr rw0 (N : Int) (wd : Int) it md0 mm2 ua uw ((List.length H : Nat) : Int) kp kni kwi pi pd (nd : Int) ab pal) [0, 12] (c_X7_up_ok E fnd ask2 (wd : Int) (N : Int) mm2 ((List.length H : Nat) : Int) (ma 0) (ma 1) (ma 2) (ma 3) (ma 4) (ma 5) (ma 6) (ma 7) (ma 8) (ma 9) (ma 10) (ma 11) (ma 12) thr pd pal ab nd p u z2 n24 hab hT.1 hT.2.2 hu hd hz2) rfl rfl (by rintro _ _ ⟨rfl, rfl⟩; rfl)).mono ?_
        rintro _ _ ⟨_, ⟨rfl, rfl⟩, rfl⟩
        exact ⟨rfl, rfl⟩
      · rintro _ _ rfl rfl
        exact ⟨ra, ia, fnd, ask, fm, nr, rr, wd, N, nc, f, sh, mm, w, pl, H, hp, hq, kw, kn, kf, nd, pa, de, sz, fi, mt, md, mi, tw, tb, ((2 * nd - 1 : Nat) : Int), tf, tsh, tmm, tws, tpl, 0, ask2, rw0, it, md0, mm2, ua, uw, kp, kni, kwi, pi, pd, ab, pal, rfl, rfl, hA, hR, hX, hK, hF, hask, hmm⟩
    · refine ⟨iI (rz 2), (fun N0 => N0 = CW E ad ra ia (rf 2 fnd) ask (rm 2 fm) nr rr (wd : Int) ((nB N wd : Nat) : Int) nc f sh mm w pl ((List.length H : Nat) : Int) hp hq kw kn kf (nd : Int) pa de sz fi mt md mi tw tb tn tf tsh tmm tws tpl), (fun N0 => N0 = MW E ma 0 ask2 (rf 2 fnd) (rm 2 fm) nr rw0 (N : Int) (wd : Int) it md0 mm2 ua uw ((List.length H : Nat) : Int) kp kni kwi pi pd (nd : Int) ab pal), ?_, fun N0 h => by subst h; rfl, ?_, fun N0 h => by subst h; rfl, ?_⟩
      · refine (MC.frame (M := CW E ad ra ia fnd ask fm nr rr (wd : Int) ((nB N wd : Nat) : Int) nc f sh mm w pl ((List.length H : Nat) : Int) hp hq kw kn kf (nd : Int) pa de sz fi mt md mi tw tb tn tf tsh tmm tws tpl) [0, 42, 27] (c_X6_up_bey E (ad 0) (ad 1) (ad 17) (ad 24) (ad 10) (ad 27) (ad 42) (ad 28) (ad 29) (ad 30) (ad 31) (ad 32) (ad 33) (ad 35) fnd ask (nd : Int) fm u z2 2 (by omega) (by omega) hz2 (by omega)) rfl rfl (by rintro _ _ ⟨rfl, rfl⟩; rfl)).mono ?_
        rintro _ _ ⟨_, ⟨rfl, rfl⟩, rfl⟩
        exact ⟨rfl, rfl⟩
      · refine (MC.frame (M := MW E ma thr ask2 fnd fm nr rw0 (N : Int) (wd : Int) it md0 mm2 ua uw ((List.length H : Nat) : Int) kp kni kwi pi pd (nd : Int) ab pal) [0, 1] (c_X7_up_bey E fnd ask2 (wd : Int) (N : Int) mm2 ((List.length H : Nat) : Int) (nd : Int) fm (ma 0) (ma 1) (ma 2) (ma 3) (ma 4) (ma 5) (ma 6) (ma 7) (ma 8) (ma 9) (ma 10) (ma 11) (ma 12) thr pd pal u z2 2 (by omega) (by omega) hz2 (by omega)) rfl rfl (by rintro _ _ ⟨rfl, rfl⟩; rfl)).mono ?_
        rintro _ _ ⟨_, ⟨rfl, rfl⟩, rfl⟩
        exact ⟨rfl, rfl⟩
      · rintro _ _ rfl rfl
        exact ⟨ra, ia, (rf 2 fnd), ask, (rm 2 fm), nr, rr, wd, N, nc, f, sh, mm, w, pl, H, hp, hq, kw, kn, kf, nd, pa, de, sz, fi, mt, md, mi, tw, tb, tn, tf, tsh, tmm, tws, tpl, 0, ask2, rw0, it, md0, mm2, ua, uw, kp, kni, kwi, pi, pd, ab, pal, rfl, rfl, hA, hR, hX, hK, hF, hask, hmm⟩
  · obtain ⟨c, hc⟩ : ∃ c : Int, ((nd : Int) = 0 ∧ c = -2) ∨ (¬ (nd : Int) = 0 ∧ (z1 < 0 ∨ (nd : Int) ≤ z1) ∧ c = 2) := by
      by_cases h0 : nd = 0
      · exact ⟨-2, Or.inl ⟨by omega, rfl⟩⟩
      · exact ⟨2, Or.inr ⟨by omega, by omega, rfl⟩⟩
    refine ⟨iI (rz c), (fun N0 => N0 = CW E ad ra ia (rf c fnd) ask (rm c fm) nr rr (wd : Int) ((nB N wd : Nat) : Int) nc f sh mm w pl ((List.length H : Nat) : Int) hp hq kw kn kf (nd : Int) pa de sz fi mt md mi tw tb tn tf tsh tmm tws tpl), (fun N0 => N0 = MW E ma 0 ask2 (rf c fnd) (rm c fm) nr rw0 (N : Int) (wd : Int) it md0 mm2 ua uw ((List.length H : Nat) : Int) kp kni kwi pi pd (nd : Int) ab pal), ?_, fun N0 h => by subst h; rfl, ?_, fun N0 h => by subst h; rfl, ?_⟩
    · refine (MC.frame (M := CW E ad ra ia fnd ask fm nr rr (wd : Int) ((nB N wd : Nat) : Int) nc f sh mm w pl ((List.length H : Nat) : Int) hp hq kw kn kf (nd : Int) pa de sz fi mt md mi tw tb tn tf tsh tmm tws tpl) [0, 42, 27] (c_X6_up_no E (ad 0) (ad 1) (ad 17) (ad 24) (ad 10) (ad 27) (ad 42) (ad 28) (ad 29) (ad 30) (ad 31) (ad 32) (ad 33) (ad 35) fnd ask (nd : Int) fm z1 z2 c (by omega) hz1 hc) rfl rfl (by rintro _ _ ⟨rfl, rfl⟩; rfl)).mono ?_
      rintro _ _ ⟨_, ⟨rfl, rfl⟩, rfl⟩
      exact ⟨rfl, rfl⟩
    · refine (MC.frame (M := MW E ma thr ask2 fnd fm nr rw0 (N : Int) (wd : Int) it md0 mm2 ua uw ((List.length H : Nat) : Int) kp kni kwi pi pd (nd : Int) ab pal) [0, 1] (c_X7_up_no E fnd ask2 (wd : Int) (N : Int) mm2 ((List.length H : Nat) : Int) (nd : Int) fm (ma 0) (ma 1) (ma 2) (ma 3) (ma 4) (ma 5) (ma 6) (ma 7) (ma 8) (ma 9) (ma 10) (ma 11) (ma 12) thr pd pal z1 z2 c (by omega) hz1 hc) rfl rfl (by rintro _ _ ⟨rfl, rfl⟩; rfl)).mono ?_
      rintro _ _ ⟨_, ⟨rfl, rfl⟩, rfl⟩
      exact ⟨rfl, rfl⟩
    · rintro _ _ rfl rfl
      exact ⟨ra, ia, (rf c fnd), ask, (rm c fm), nr, rr, wd, N, nc, f, sh, mm, w, pl, H, hp, hq, kw, kn, kf, nd, pa, de, sz, fi, mt, md, mi, tw, tb, tn, tf, tsh, tmm, tws, tpl, 0, ask2, rw0, it, md0, mm2, ua, uw, kp, kni, kwi, pi, pd, ab, pal, rfl, rfl, hA, hR, hX, hK, hF, hask, hmm⟩

set_option maxRecDepth 100000 in
set_option maxHeartbeats 4000000 in
theorem st_node (E : jD) (ad ma : Nat → Nat) (C M : va_W) (hRel : Rel E ad ma C M) (z1 : Int) (z2 : Int) (hz1 : jr z1) (hz2 : jr z2) : StepI E ad ma Y_X6_node Y_X7_node [.ref (ad 0), .int (iI z1), .int (iI z2)] [.ref (ma 0), .int (iI z1), .int (iI z2)] C M := by
  refine Rel_elim (P := fun C M => StepI E ad ma Y_X6_node Y_X7_node [.ref (ad 0), .int (iI z1), .int (iI z2)] [.ref (ma 0), .int (iI z1), .int (iI z2)] C M) hRel ?_
  intro ra ia fnd ask fm nr rr wd N nc f sh mm w pl H hp hq kw kn kf nd pa de sz fi mt md mi tw tb tn tf tsh tmm tws tpl thr ask2 rw0 it md0 mm2 ua uw kp kni kwi pi pd ab pal hA hR hX hK hF hask hmm
  have hn := iX_n hX
  have hnd : nd ≤ 24 := by
    rcases hF with h | h
    · omega
    · exact h.2.1
  by_cases hok : 1 ≤ nd ∧ 0 ≤ z2 ∧ z2 ≤ 2 ∧ 0 ≤ z1 ∧ z1 < nd
  · obtain ⟨u, rfl⟩ : ∃ q : Nat, z1 = (q : Int) := ⟨z1.toNat, by omega⟩
    have hu : u < nd := by omega
    obtain ⟨n1, n24, rfl, p, hT, hfam, hab⟩ : 1 ≤ nd ∧ nd ≤ 24 ∧ tn = ((2 * nd - 1 : Nat) : Int) ∧ ∃ p, toldP p nd ∧ famOK p nd pa de sz fi mt tf ∧ ∀ k, k < nd → (ab k).toInt = p k := by
      rcases hF with h | h
      · omega
      · exact h
    obtain rfl | rfl | rfl : z2 = 0 ∨ z2 = 1 ∨ z2 = 2 := by omega
    · refine ⟨iI (((srF p nd u : Nat) : Int)), (fun N0 => N0 = CW E ad ra ia fnd ask fm nr rr (wd : Int) ((nB N wd : Nat) : Int) nc f sh mm w pl ((List.length H : Nat) : Int) hp hq kw kn kf (nd : Int) pa de sz fi mt md mi tw tb ((2 * nd - 1 : Nat) : Int) tf tsh tmm tws tpl), (fun N0 => N0 = MW E ma 0 ask2 fnd fm nr rw0 (N : Int) (wd : Int) it md0 mm2 ua uw ((List.length H : Nat) : Int) kp kni kwi pi pd (nd : Int) ab pal), ?_, fun N0 h => by subst h; rfl, ?_, fun N0 h => by subst h; rfl, ?_⟩
      · refine (MC.frame (M := CW E ad ra ia fnd ask fm nr rr (wd : Int) ((nB N wd : Nat) : Int) nc f sh mm w pl ((List.length H : Nat) : Int) hp hq kw kn kf (nd : Int) pa de sz fi mt md mi tw tb ((2 * nd - 1 : Nat) : Int) tf tsh tmm tws tpl) [0, 27, 29] (c_X6_node_0 E (ad 0) (ad 1) (ad 17) (ad 24) (ad 10) (ad 27) (ad 42) (ad 28) (ad 29) (ad 30) (ad 31) (ad 32) (ad 33) (ad 35) fnd ask de nd u (((srF p nd u : Nat) : Int)) (by omega) hu (hfam.2.1 u hu)) rfl rfl (by rintro _ _ ⟨rfl, rfl⟩; rfl)).mono ?_
        rintro _ _ ⟨_, ⟨rfl, rfl⟩, rfl⟩
        exact ⟨rfl, rfl⟩
      · refine (MC.frame (M := MW E ma thr ask2 fnd fm nr rw0 (N : Int) (wd : Int) it md0 mm2 ua uw ((List.length H : Nat) : Int) kp kni kwi pi pd (nd : Int) ab pal) [0, 12] (c_X7_node_0 E fnd ask2 (wd : Int) (N : Int) mm2 ((List.length H : Nat) : Int) (ma 0) (ma 1) (ma 2) (ma 3) (ma 4) (ma 5) (ma 6) (ma 7) (ma 8) (ma 9) (ma 10) (ma 11) (ma 12) thr pd pal ab nd p u n24 hab hT.1 hT.2.2 hu) rfl rfl (by rintro _ _ ⟨rfl, rfl⟩; rfl)).mono ?_
        rintro _ _ ⟨_, ⟨rfl, rfl⟩, rfl⟩
        exact ⟨rfl, rfl⟩
      · rintro _ _ rfl rfl
        exact ⟨ra, ia, fnd, ask, fm, nr, rr, wd, N, nc, f, sh, mm, w, pl, H, hp, hq, kw, kn, kf, nd, pa, de, sz, fi, mt, md, mi, tw, tb, ((2 * nd - 1 : Nat) : Int), tf, tsh, tmm, tws, tpl, 0, ask2, rw0, it, md0, mm2, ua, uw, kp, kni, kwi, pi, pd, ab, pal, rfl, rfl, hA, hR, hX, hK, hF, hask, hmm⟩
    · refine ⟨iI (((beF p nd u nd : Nat) : Int)), (fun N0 => N0 = CW E ad ra ia fnd ask fm nr rr (wd : Int) ((nB N wd : Nat) : Int) nc f sh mm w pl ((List.length H : Nat) : Int) hp hq kw kn kf (nd : Int) pa de sz fi mt md mi tw tb ((2 * nd - 1 : Nat) : Int) tf tsh tmm tws tpl), (fun N0 => N0 = MW E ma 0 ask2 fnd fm nr rw0 (N : Int) (wd : Int) it md0 mm2 ua uw ((List.length H : Nat) : Int) kp kni kwi pi pd (nd : Int) ab pal), ?_, fun N0 h => by subst h; rfl, ?_, fun N0 h => by subst h; rfl, ?_⟩
      · refine (MC.frame (M := CW E ad ra ia fnd ask fm nr rr (wd : Int) ((nB N wd : Nat) : Int) nc f sh mm w pl ((List.length H : Nat) : Int) hp hq kw kn kf (nd : Int) pa de sz fi mt md mi tw tb ((2 * nd - 1 : Nat) : Int) tf tsh tmm tws tpl) [0, 27, 30] (c_X6_node_1 E (ad 0) (ad 1) (ad 17) (ad 24) (ad 10) (ad 27) (ad 42) (ad 28) (ad 29) (ad 30) (ad 31) (ad 32) (ad 33) (ad 35) fnd ask sz nd u (((beF p nd u nd : Nat) : Int)) (by omega) hu (fam_sz hT hfam hu)) rfl rfl (by rintro _ _ ⟨rfl, rfl⟩; rfl)).mono ?_
        rintro _ _ ⟨_, ⟨rfl, rfl⟩, rfl⟩
        exact ⟨rfl, rfl⟩
      · refine (MC.frame (M := MW E ma thr ask2 fnd fm nr rw0 (N : Int) (wd : Int) it md0 mm2 ua uw ((List.length H : Nat) : Int) kp kni kwi pi pd (nd : Int) ab pal) [0, 12] (c_X7_node_1 E fnd ask2 (wd : Int) (N : Int) mm2 ((List.length H : Nat) : Int) (ma 0) (ma 1) (ma 2) (ma 3) (ma 4) (ma 5) (ma 6) (ma 7) (ma 8) (ma 9) (ma 10) (ma 11) (ma 12) thr pd pal ab nd p u n24 hab hT.1 hT.2.2 hu) rfl rfl (by rintro _ _ ⟨rfl, rfl⟩; rfl)).mono ?_
        rintro _ _ ⟨_, ⟨rfl, rfl⟩, rfl⟩
        exact ⟨rfl, rfl⟩
      · rintro _ _ rfl rfl
        exact ⟨ra, ia, fnd, ask, fm, nr, rr, wd, N, nc, f, sh, mm, w, pl, H, hp, hq, kw, kn, kf, nd, pa, de, sz, fi, mt, md, mi, tw, tb, ((2 * nd - 1 : Nat) : Int), tf, tsh, tmm, tws, tpl, 0, ask2, rw0, it, md0, mm2, ua, uw, kp, kni, kwi, pi, pd, ab, pal, rfl, rfl, hA, hR, hX, hK, hF, hask, hmm⟩
    · refine ⟨iI (fM p nd u), (fun N0 => N0 = CW E ad ra ia fnd ask fm nr rr (wd : Int) ((nB N wd : Nat) : Int) nc f sh mm w pl ((List.length H : Nat) : Int) hp hq kw kn kf (nd : Int) pa de sz fi mt md mi tw tb ((2 * nd - 1 : Nat) : Int) tf tsh tmm tws tpl), (fun N0 => N0 = MW E ma 0 ask2 fnd fm nr rw0 (N : Int) (wd : Int) it md0 mm2 ua uw ((List.length H : Nat) : Int) kp kni kwi pi pd (nd : Int) ab pal), ?_, fun N0 h => by subst h; rfl, ?_, fun N0 h => by subst h; rfl, ?_⟩
      · refine (MC.frame (M := CW E ad ra ia fnd ask fm nr rr (wd : Int) ((nB N wd : Nat) : Int) nc f sh mm w pl ((List.length H : Nat) : Int) hp hq kw kn kf (nd : Int) pa de sz fi mt md mi tw tb ((2 * nd - 1 : Nat) : Int) tf tsh tmm tws tpl) [0, 27, 31] (c_X6_node_2 E (ad 0) (ad 1) (ad 17) (ad 24) (ad 10) (ad 27) (ad 42) (ad 28) (ad 29) (ad 30) (ad 31) (ad 32) (ad 33) (ad 35) fnd ask fi nd u (fM p nd u) (by omega) hu (fam_fi hT hfam hu).1) rfl rfl (by rintro _ _ ⟨rfl, rfl⟩; rfl)).mono ?_
        rintro _ _ ⟨_, ⟨rfl, rfl⟩, rfl⟩
        exact ⟨rfl, rfl⟩
      · refine (MC.frame (M := MW E ma thr ask2 fnd fm nr rw0 (N : Int) (wd : Int) it md0 mm2 ua uw ((List.length H : Nat) : Int) kp kni kwi pi pd (nd : Int) ab pal) [0, 12] (c_X7_node_2 E fnd ask2 (wd : Int) (N : Int) mm2 ((List.length H : Nat) : Int) (ma 0) (ma 1) (ma 2) (ma 3) (ma 4) (ma 5) (ma 6) (ma 7) (ma 8) (ma 9) (ma 10) (ma 11) (ma 12) thr pd pal ab nd p u n24 hab hT.1 hT.2.2 hu) rfl rfl (by rintro _ _ ⟨rfl, rfl⟩; rfl)).mono ?_
        rintro _ _ ⟨_, ⟨rfl, rfl⟩, rfl⟩
        exact ⟨rfl, rfl⟩
      · rintro _ _ rfl rfl
        exact ⟨ra, ia, fnd, ask, fm, nr, rr, wd, N, nc, f, sh, mm, w, pl, H, hp, hq, kw, kn, kf, nd, pa, de, sz, fi, mt, md, mi, tw, tb, ((2 * nd - 1 : Nat) : Int), tf, tsh, tmm, tws, tpl, 0, ask2, rw0, it, md0, mm2, ua, uw, kp, kni, kwi, pi, pd, ab, pal, rfl, rfl, hA, hR, hX, hK, hF, hask, hmm⟩
  · obtain ⟨c, hc⟩ : ∃ c : Int, ((nd : Int) = 0 ∧ c = -2) ∨ (¬ (nd : Int) = 0 ∧ (z2 < 0 ∨ 2 < z2) ∧ c = -1) ∨ (¬ (nd : Int) = 0 ∧ 0 ≤ z2 ∧ z2 ≤ 2 ∧ (z1 < 0 ∨ (nd : Int) ≤ z1) ∧ c = 2) := by
      by_cases h0 : nd = 0
      · exact ⟨-2, Or.inl ⟨by omega, rfl⟩⟩
      · by_cases h1 : z2 < 0 ∨ 2 < z2
        · exact ⟨-1, Or.inr (Or.inl ⟨by omega, h1, rfl⟩)⟩
        · exact ⟨2, Or.inr (Or.inr ⟨by omega, by omega, by omega, by omega, rfl⟩)⟩
    refine ⟨iI (rz c), (fun N0 => N0 = CW E ad ra ia (rf c fnd) ask (rm c fm) nr rr (wd : Int) ((nB N wd : Nat) : Int) nc f sh mm w pl ((List.length H : Nat) : Int) hp hq kw kn kf (nd : Int) pa de sz fi mt md mi tw tb tn tf tsh tmm tws tpl), (fun N0 => N0 = MW E ma 0 ask2 (rf c fnd) (rm c fm) nr rw0 (N : Int) (wd : Int) it md0 mm2 ua uw ((List.length H : Nat) : Int) kp kni kwi pi pd (nd : Int) ab pal), ?_, fun N0 h => by subst h; rfl, ?_, fun N0 h => by subst h; rfl, ?_⟩
    · refine (MC.frame (M := CW E ad ra ia fnd ask fm nr rr (wd : Int) ((nB N wd : Nat) : Int) nc f sh mm w pl ((List.length H : Nat) : Int) hp hq kw kn kf (nd : Int) pa de sz fi mt md mi tw tb tn tf tsh tmm tws tpl) [0, 42, 27] (c_X6_node_no E (ad 0) (ad 1) (ad 17) (ad 24) (ad 10) (ad 27) (ad 42) (ad 28) (ad 29) (ad 30) (ad 31) (ad 32) (ad 33) (ad 35) fnd ask (nd : Int) fm z1 z2 c (by omega) hz1 hz2 hc) rfl rfl (by rintro _ _ ⟨rfl, rfl⟩; rfl)).mono ?_
      rintro _ _ ⟨_, ⟨rfl, rfl⟩, rfl⟩
      exact ⟨rfl, rfl⟩
    · refine (MC.frame (M := MW E ma thr ask2 fnd fm nr rw0 (N : Int) (wd : Int) it md0 mm2 ua uw ((List.length H : Nat) : Int) kp kni kwi pi pd (nd : Int) ab pal) [0, 1] (c_X7_node_no E fnd ask2 (wd : Int) (N : Int) mm2 ((List.length H : Nat) : Int) (nd : Int) fm (ma 0) (ma 1) (ma 2) (ma 3) (ma 4) (ma 5) (ma 6) (ma 7) (ma 8) (ma 9) (ma 10) (ma 11) (ma 12) thr pd pal z1 z2 c (by omega) hz1 hz2 hc) rfl rfl (by rintro _ _ ⟨rfl, rfl⟩; rfl)).mono ?_
      rintro _ _ ⟨_, ⟨rfl, rfl⟩, rfl⟩
      exact ⟨rfl, rfl⟩
    · rintro _ _ rfl rfl
      exact ⟨ra, ia, (rf c fnd), ask, (rm c fm), nr, rr, wd, N, nc, f, sh, mm, w, pl, H, hp, hq, kw, kn, kf, nd, pa, de, sz, fi, mt, md, mi, tw, tb, tn, tf, tsh, tmm, tws, tpl, 0, ask2, rw0, it, md0, mm2, ua, uw, kp, kni, kwi, pi, pd, ab, pal, rfl, rfl, hA, hR, hX, hK, hF, hask, hmm⟩
