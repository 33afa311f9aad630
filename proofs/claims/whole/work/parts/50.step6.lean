theorem jput_eq {M N T : va_W} {is : List Nat} (hn : N.length = is.length) (hl : T.length = M.length) (h1 : ∀ (t i : Nat) (q : Nat × va_E), is[t]? = some i → N[t]? = some q → T[i]? = some q) (h2 : ∀ i, i ∉ is → T[i]? = M[i]?) : jput M is N = T := by
  unfold jput
  rw [← hn, List.drop_length, List.append_nil]
  apply List.ext_getElem?
  intro k
  by_cases hk : k < M.length
  · have hk2 : k < (jsets M (is.zip N)).length := by rw [jsets_len]; exact hk
    have e := List.getElem?_eq_getElem hk2
    rw [e]
    rcases jsets_get _ _ _ _ e with h | ⟨h, hno⟩
    · obtain ⟨t, a, b⟩ := zip_get is N _ _ h
      exact (h1 t k _ a b).symm
    · by_cases hm : k ∈ is
      · obtain ⟨t, ht⟩ := List.getElem?_of_mem hm
        have htl : t < N.length := by rw [hn]; exact (List.getElem?_eq_some_iff.mp ht).1
        exact absurd (List.mem_of_getElem? (i := t) (by rw [List.getElem?_zip_eq_some]; exact ⟨ht, List.getElem?_eq_getElem htl⟩)) (hno _)
      · rw [h2 k hm]
        exact h.symm
  · rw [List.getElem?_eq_none (by rw [jsets_len]; omega), List.getElem?_eq_none (by omega)]
theorem jput_by {M N T : va_W} {is : List Nat} (js : List Nat) (X : va_W) {n : Nat} (hT : T.length = n) (hM : M.length = n) (h1 : is.map (fun i => T[i]?) = N.map some) (g1 : js.map (fun i => T[i]?) = X.map some) (g2 : js.map (fun i => M[i]?) = X.map some) (h3 : (List.range n).all (fun i => is.contains i || js.contains i) = true) : jput M is N = T := by
  have hn : is.length = N.length := by have := congrArg List.length h1; simpa using this
  have h2 := g1.trans g2.symm
  subst hM
  refine jput_eq hn.symm hT (fun t i q a b => ?_) (fun i hi => ?_)
  · obtain ⟨c, h4, h5⟩ := map_get h1 a
    cases b.symm.trans h4
    exact h5
  · by_cases hk : i < M.length
    · have h4 := List.all_eq_true.mp h3 i (List.mem_range.mpr hk)
      rw [Bool.or_eq_true] at h4
      rcases h4 with h4 | h4
      · exact absurd (List.contains_iff_mem.mp h4) hi
      · exact List.map_inj_left.mp h2 i (List.contains_iff_mem.mp h4)
    · rw [List.getElem?_eq_none (by omega), List.getElem?_eq_none (by omega)]

set_option maxRecDepth 100000 in
set_option maxHeartbeats 4000000 in
theorem st_tree (E : jD) (ad ma : Nat → Nat) (C M : va_W) (hRel : Rel E ad ma C M) (z1 : Int) (hz1 : jr z1) : StepI E ad ma Y_X6_tree Y_X7_tree [.ref (ad 0), .int (iI z1)] [.ref (ma 0), .int (iI z1)] C M := by
  refine Rel_elim (P := fun C M => StepI E ad ma Y_X6_tree Y_X7_tree [.ref (ad 0), .int (iI z1)] [.ref (ma 0), .int (iI z1)] C M) hRel ?_
  intro ra ia fnd ask fm nr rr wd N nc f sh mm w pl H hp hq kw kn kf nd pa de sz fi mt md mi tw tb tn tf tsh tmm tws tpl thr ask2 rw0 it md0 mm2 ua uw kp kni kwi pi pd ab pal hA hR hX hK hF hask hmm
  have hn := iX_n hX
  by_cases hb : z1 < 0 ∨ 4 ≤ z1
  · refine ⟨iI (-1), (fun N0 => N0 = CW E ad ra ia fnd ask fm nr rr (wd : Int) ((nB N wd : Nat) : Int) nc f sh mm w pl ((List.length H : Nat) : Int) hp hq kw kn kf (nd : Int) pa de sz fi mt md mi tw tb tn tf tsh tmm tws tpl), (fun N0 => N0 = MW E ma 0 ask2 fnd fm nr rw0 (N : Int) (wd : Int) it md0 mm2 ua uw ((List.length H : Nat) : Int) kp kni kwi pi pd (nd : Int) ab pal), ?_, fun N0 h => by subst h; rfl, ?_, fun N0 h => by subst h; rfl, ?_⟩
    · refine (MC.frame (M := CW E ad ra ia fnd ask fm nr rr (wd : Int) ((nB N wd : Nat) : Int) nc f sh mm w pl ((List.length H : Nat) : Int) hp hq kw kn kf (nd : Int) pa de sz fi mt md mi tw tb tn tf tsh tmm tws tpl) [0] (c_X6_tree_bad E (ad 0) (ad 1) (ad 17) (ad 24) (ad 10) (ad 27) (ad 42) fnd ask z1 hz1 hb) rfl rfl (by rintro _ _ ⟨rfl, rfl⟩; rfl)).mono ?_
      rintro _ _ ⟨_, ⟨rfl, rfl⟩, rfl⟩
      exact ⟨rfl, rfl⟩
    · refine (MC.frame (M := MW E ma thr ask2 fnd fm nr rw0 (N : Int) (wd : Int) it md0 mm2 ua uw ((List.length H : Nat) : Int) kp kni kwi pi pd (nd : Int) ab pal) [0] (c_X7_tree_bad E fnd ask2 (wd : Int) (N : Int) mm2 ((List.length H : Nat) : Int) (nd : Int) (ma 0) (ma 1) (ma 2) (ma 3) (ma 4) (ma 5) (ma 6) (ma 7) (ma 8) (ma 9) (ma 10) (ma 11) (ma 12) thr pd pal z1 hz1 hb) rfl rfl (by rintro _ _ ⟨rfl, rfl⟩; rfl)).mono ?_
      rintro _ _ ⟨_, ⟨rfl, rfl⟩, rfl⟩
      exact ⟨rfl, rfl⟩
    · rintro _ _ rfl rfl
      exact ⟨ra, ia, fnd, ask, fm, nr, rr, wd, N, nc, f, sh, mm, w, pl, H, hp, hq, kw, kn, kf, nd, pa, de, sz, fi, mt, md, mi, tw, tb, tn, tf, tsh, tmm, tws, tpl, 0, ask2, rw0, it, md0, mm2, ua, uw, kp, kni, kwi, pi, pd, ab, pal, rfl, rfl, hA, hR, hX, hK, hF, hask, hmm⟩
  · obtain ⟨r, rfl⟩ : ∃ q : Nat, z1 = (q : Int) := ⟨z1.toNat, by omega⟩
    have hr4 : r < 4 := by omega
    obtain ⟨hN, hrw⟩ := hR r hr4
    have hra := hA.1 r hr4
    by_cases h0 : nr r < 1 ∨ 24 < nr r
    · obtain ⟨c, hc⟩ : ∃ c : Int, (nr r < 0 ∧ c = 1) ∨ (0 ≤ nr r ∧ (nr r < 1 ∨ 24 < nr r) ∧ c = 3) := by
        by_cases h1 : nr r < 0
        · exact ⟨1, Or.inl ⟨h1, rfl⟩⟩
        · exact ⟨3, Or.inr ⟨by omega, by omega, rfl⟩⟩
      refine ⟨iI (rz c), (fun N0 => N0 = CW E ad ra ia (rf c fnd) ask (rm c fm) nr rr (wd : Int) ((nB N wd : Nat) : Int) nc f sh mm w pl ((List.length H : Nat) : Int) hp hq kw kn kf (nd : Int) pa de sz fi mt md mi tw tb tn tf tsh tmm tws tpl), (fun N0 => N0 = MW E ma 0 ask2 (rf c fnd) (rm c fm) nr rw0 (N : Int) (wd : Int) it md0 mm2 ua uw ((List.length H : Nat) : Int) kp kni kwi pi pd (nd : Int) ab pal), ?_, fun N0 h => by subst h; rfl, ?_, fun N0 h => by subst h; rfl, ?_⟩
      · refine (MC.frame (M := CW E ad ra ia fnd ask fm nr rr (wd : Int) ((nB N wd : Nat) : Int) nc f sh mm w pl ((List.length H : Nat) : Int) hp hq kw kn kf (nd : Int) pa de sz fi mt md mi tw tb tn tf tsh tmm tws tpl) [0, 42, 1, (2 + 2 * r)] (c_X6_tree_no E (ad 0) (ad 1) (ad 17) (ad 24) (ad 10) (ad 27) (ad 42) (ad (2 + 2 * r)) (ad (3 + 2 * r)) fnd ask (nr r) fm ra r c (by omega) hra hN hc) (by rcases lt4 hr4 with rfl | rfl | rfl | rfl <;> rfl) (by rcases lt4 hr4 with rfl | rfl | rfl | rfl <;> rfl) (by rintro _ _ ⟨rfl, rfl⟩; rfl)).mono ?_
        rintro _ _ ⟨_, ⟨rfl, rfl⟩, rfl⟩
        exact ⟨rfl, (by rcases lt4 hr4 with rfl | rfl | rfl | rfl <;> rfl)⟩
      · refine (MC.frame (M := MW E ma thr ask2 fnd fm nr rw0 (N : Int) (wd : Int) it md0 mm2 ua uw ((List.length H : Nat) : Int) kp kni kwi pi pd (nd : Int) ab pal) [0, 1, 3] (c_X7_tree_no E fnd ask2 (wd : Int) (N : Int) mm2 ((List.length H : Nat) : Int) (nd : Int) fm (ma 0) (ma 1) (ma 2) (ma 3) (ma 4) (ma 5) (ma 6) (ma 7) (ma 8) (ma 9) (ma 10) (ma 11) (ma 12) thr pd pal nr r c (by omega) hN hc) rfl rfl (by rintro _ _ ⟨rfl, rfl⟩; rfl)).mono ?_
        rintro _ _ ⟨_, ⟨rfl, rfl⟩, rfl⟩
        exact ⟨rfl, rfl⟩
      · rintro _ _ rfl rfl
        exact ⟨ra, ia, (rf c fnd), ask, (rm c fm), nr, rr, wd, N, nc, f, sh, mm, w, pl, H, hp, hq, kw, kn, kf, nd, pa, de, sz, fi, mt, md, mi, tw, tb, tn, tf, tsh, tmm, tws, tpl, 0, ask2, rw0, it, md0, mm2, ua, uw, kp, kni, kwi, pi, pd, ab, pal, rfl, rfl, hA, hR, hX, hK, hF, hask, hmm⟩
    · obtain ⟨n2, hn2⟩ : ∃ x : Nat, nr r = (x : Int) := ⟨(nr r).toNat, by omega⟩
      have hpp : ∀ k, k < n2 → tI (rr r) k = (fun k => (rw0 (48 * r + k)).toInt) k := fun k hk => by
        show (rr r k).toInt = (rw0 (48 * r + k)).toInt
        rw [hrw k (by omega)]
      by_cases hT : toldP (tI (rr r)) n2
      · have hnr0 : setI nr r (n2 : Int) = nr := setI_same hn2
        refine ⟨iI ((n2 : Int)), (fun N0 => ∃ pa2 de2 sz2 fi2 mt2 md2 mi2 tw2 tb2 tf2 tsh2 tmm2 tws2 tpl2, N0 = CW E ad ra ia fnd ask fm nr rr (wd : Int) ((nB N wd : Nat) : Int) nc f sh mm w pl ((List.length H : Nat) : Int) hp hq kw kn kf (n2 : Int) pa2 de2 sz2 fi2 mt2 md2 mi2 tw2 tb2 ((2 * n2 - 1 : Nat) : Int) tf2 tsh2 tmm2 tws2 tpl2 ∧ famOK (tI (rr r)) n2 pa2 de2 sz2 fi2 mt2 tf2), (fun N0 => N0 = MW E ma 0 ask2 fnd fm nr rw0 (N : Int) (wd : Int) it md0 mm2 ua uw ((List.length H : Nat) : Int) kp kni kwi pi pd (n2 : Int) (cpF rw0 ab (48 * r) 0 n2) pal), ?_, fun N0 h => by obtain ⟨pa2, de2, sz2, fi2, mt2, md2, mi2, tw2, tb2, tf2, tsh2, tmm2, tws2, tpl2, rfl, hfam⟩ := h; rfl, ?_, fun N0 h => by subst h; rfl, ?_⟩
        · rw [← hnr0]
          refine (MC.frame (M := CW E ad ra ia fnd ask fm (setI nr r (n2 : Int)) rr (wd : Int) ((nB N wd : Nat) : Int) nc f sh mm w pl ((List.length H : Nat) : Int) hp hq kw kn kf (nd : Int) pa de sz fi mt md mi tw tb tn tf tsh tmm tws tpl) [0, 1, (2 + 2 * r), (3 + 2 * r), 27, 28, 29, 30, 31, 32, 33, 34, 35, 36, 37, 38, 39, 40, 41] (c_X6_tree_ok E (ad 0) (ad 1) (ad 17) (ad 24) (ad 10) (ad 27) (ad 42) (ad (2 + 2 * r)) (ad (3 + 2 * r)) (ad 28) (ad 29) (ad 30) (ad 31) (ad 32) (ad 33) (ad 34) (ad 35) (ad 36) (ad 37) (ad 38) (ad 39) (ad 40) (ad 41) fnd ask (nd : Int) md tw tb tn tmm ra (rr r) pa de sz fi mt mi tf tsh tpl tws r n2 (by omega) hra (by omega) hT (tour_ok hT (by omega))) (by rcases lt4 hr4 with rfl | rfl | rfl | rfl <;> rfl) (by rcases lt4 hr4 with rfl | rfl | rfl | rfl <;> rfl) (fun rr0 N0 h => by obtain ⟨pa2, de2, sz2, fi2, mt2, md2, mi2, tw2, tb2, tf2, tsh2, tmm2, tws2, tpl2, e1, e2, hfam⟩ := h; rw [e2]; rfl)).mono ?_
          intro rr0 N0 h
          obtain ⟨Nc, h1, h2⟩ := h
          obtain ⟨pa2, de2, sz2, fi2, mt2, md2, mi2, tw2, tb2, tf2, tsh2, tmm2, tws2, tpl2, e1, e2, hfam⟩ := h1
          refine ⟨e1, pa2, de2, sz2, fi2, mt2, md2, mi2, tw2, tb2, tf2, tsh2, tmm2, tws2, tpl2, ?_, hfam⟩
          rw [h2, e2]
          exact jput_by [2, 3, 4, 5, 6, 7, 8, 9, 10, 11, 12, 13, 14, 15, 16, 17, 18, 19, 20, 21, 22, 23, 24, 25, 26, 42] [((ad 2), jO 4 [.ref (ad 3), .int (iI ((setI nr r (n2 : Int)) 0))]), ((ad 3), jA E 48 (rr 0)), ((ad 4), jO 4 [.ref (ad 5), .int (iI ((setI nr r (n2 : Int)) 1))]), ((ad 5), jA E 48 (rr 1)), ((ad 6), jO 4 [.ref (ad 7), .int (iI ((setI nr r (n2 : Int)) 2))]), ((ad 7), jA E 48 (rr 2)), ((ad 8), jO 4 [.ref (ad 9), .int (iI ((setI nr r (n2 : Int)) 3))]), ((ad 9), jA E 48 (rr 3)), ((ad 10), jR E 3 2 ia), ((ad 11), jO 2 [.ref (ad 12), .int (iI (kw 0))]), ((ad 12), jO 4 [.ref (ad 13), .int (iI (kn 0))]), ((ad 13), jA E 48 (kf 0)), ((ad 14), jO 2 [.ref (ad 15), .int (iI (kw 1))]), ((ad 15), jO 4 [.ref (ad 16), .int (iI (kn 1))]), ((ad 16), jA E 48 (kf 1)), ((ad 17), jO 3 [.ref (ad 18), .ref (ad 20), .ref (ad 21), .ref (ad 23), .int (iI (wd : Int)), .int (iI ((nB N wd : Nat) : Int))]), ((ad 18), jO 4 [.ref (ad 19), .int (iI nc)]), ((ad 19), jA E 48 f), ((ad 20), jA E 48 sh), ((ad 21), jO 5 [.ref (ad 22), .int (iI mm)]), ((ad 22), jL E 64 w), ((ad 23), jA E 6 pl), ((ad 24), jO 1 [.ref (ad 25), .ref (ad 26), .int (iI ((List.length H : Nat) : Int))]), ((ad 25), jA E 10 hp), ((ad 26), jA E 10 hq), ((ad 42), jA E 5 (aI fm))] rfl rfl (by rcases lt4 hr4 with rfl | rfl | rfl | rfl <;> rfl) rfl rfl (by rcases lt4 hr4 with rfl | rfl | rfl | rfl <;> rfl)
        · refine (MC.frame (M := MW E ma thr ask2 fnd fm nr rw0 (N : Int) (wd : Int) it md0 mm2 ua uw ((List.length H : Nat) : Int) kp kni kwi pi pd (nd : Int) ab pal) [0, 2, 3, 12] (c_X7_tree_ok E fnd ask2 (wd : Int) (N : Int) mm2 ((List.length H : Nat) : Int) (nd : Int) (ma 0) (ma 1) (ma 2) (ma 3) (ma 4) (ma 5) (ma 6) (ma 7) (ma 8) (ma 9) (ma 10) (ma 11) (ma 12) thr pd pal nr rw0 ab r n2 (by omega) hn2 (by omega) (told_cg hpp hT)) rfl rfl (by rintro _ _ ⟨rfl, rfl⟩; rfl)).mono ?_
          rintro _ _ ⟨_, ⟨rfl, rfl⟩, rfl⟩
          exact ⟨rfl, rfl⟩
        · rintro _ _ ⟨pa2, de2, sz2, fi2, mt2, md2, mi2, tw2, tb2, tf2, tsh2, tmm2, tws2, tpl2, rfl, hfam⟩ rfl
          exact ⟨ra, ia, fnd, ask, fm, nr, rr, wd, N, nc, f, sh, mm, w, pl, H, hp, hq, kw, kn, kf, n2, pa2, de2, sz2, fi2, mt2, md2, mi2, tw2, tb2, ((2 * n2 - 1 : Nat) : Int), tf2, tsh2, tmm2, tws2, tpl2, 0, ask2, rw0, it, md0, mm2, ua, uw, kp, kni, kwi, pi, pd, (cpF rw0 ab (48 * r) 0 n2), pal, rfl, rfl, hA, hR, hX, hK, (Or.inr ⟨by omega, by omega, rfl, tI (rr r), hT, hfam, fun k hk => by
            unfold cpF
            rw [if_pos (by omega), Nat.sub_zero]
            exact (hpp k hk).symm⟩), hask, hmm⟩
      · have hnr0 : setI nr r (n2 : Int) = nr := setI_same hn2
        refine ⟨iI (rz 4), (fun N0 => N0 = CW E ad ra ia (rf 4 fnd) ask (rm 4 fm) nr rr (wd : Int) ((nB N wd : Nat) : Int) nc f sh mm w pl ((List.length H : Nat) : Int) hp hq kw kn kf (nd : Int) pa de sz fi mt md mi tw tb tn tf tsh tmm tws tpl), (fun N0 => N0 = MW E ma 0 ask2 (rf 4 fnd) (rm 4 fm) nr rw0 (N : Int) (wd : Int) it md0 mm2 ua uw ((List.length H : Nat) : Int) kp kni kwi pi pd (nd : Int) ab pal), ?_, fun N0 h => by subst h; rfl, ?_, fun N0 h => by subst h; rfl, ?_⟩
        · rw [← hnr0]
          refine (MC.frame (M := CW E ad ra ia fnd ask fm (setI nr r (n2 : Int)) rr (wd : Int) ((nB N wd : Nat) : Int) nc f sh mm w pl ((List.length H : Nat) : Int) hp hq kw kn kf (nd : Int) pa de sz fi mt md mi tw tb tn tf tsh tmm tws tpl) [0, 42, 1, (2 + 2 * r), (3 + 2 * r)] (c_X6_tree_un E (ad 0) (ad 1) (ad 17) (ad 24) (ad 10) (ad 27) (ad 42) (ad (2 + 2 * r)) (ad (3 + 2 * r)) fnd ask fm ra (rr r) r n2 4 (by omega) hra (by omega) hT (by omega)) (by rcases lt4 hr4 with rfl | rfl | rfl | rfl <;> rfl) (by rcases lt4 hr4 with rfl | rfl | rfl | rfl <;> rfl) (by rintro _ _ ⟨rfl, rfl⟩; rfl)).mono ?_
          rintro _ _ ⟨_, ⟨rfl, rfl⟩, rfl⟩
          exact ⟨rfl, (by rcases lt4 hr4 with rfl | rfl | rfl | rfl <;> rfl)⟩
        · refine (MC.frame (M := MW E ma thr ask2 fnd fm nr rw0 (N : Int) (wd : Int) it md0 mm2 ua uw ((List.length H : Nat) : Int) kp kni kwi pi pd (nd : Int) ab pal) [0, 1, 2, 3] (c_X7_tree_un E fnd ask2 (wd : Int) (N : Int) mm2 ((List.length H : Nat) : Int) (nd : Int) fm (ma 0) (ma 1) (ma 2) (ma 3) (ma 4) (ma 5) (ma 6) (ma 7) (ma 8) (ma 9) (ma 10) (ma 11) (ma 12) thr pd pal nr rw0 r n2 4 (by omega) hn2 (by omega) (fun h => hT (told_cg (fun k hk => (hpp k hk).symm) h)) (by omega)) rfl rfl (by rintro _ _ ⟨rfl, rfl⟩; rfl)).mono ?_
          rintro _ _ ⟨_, ⟨rfl, rfl⟩, rfl⟩
          exact ⟨rfl, rfl⟩
        · rintro _ _ rfl rfl
          exact ⟨ra, ia, (rf 4 fnd), ask, (rm 4 fm), nr, rr, wd, N, nc, f, sh, mm, w, pl, H, hp, hq, kw, kn, kf, nd, pa, de, sz, fi, mt, md, mi, tw, tb, tn, tf, tsh, tmm, tws, tpl, 0, ask2, rw0, it, md0, mm2, ua, uw, kp, kni, kwi, pi, pd, ab, pal, rfl, rfl, hA, hR, hX, hK, hF, hask, hmm⟩

