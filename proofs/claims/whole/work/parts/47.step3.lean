theorem lt4 {r : Nat} (h : r < 4) : r = 0 ∨ r = 1 ∨ r = 2 ∨ r = 3 := by omega
theorem lt2 {r : Nat} (h : r < 2) : r = 0 ∨ r = 1 := by omega

set_option maxRecDepth 100000 in
set_option maxHeartbeats 4000000 in
theorem st_row (E : jD) (ad ma : Nat → Nat) (C M : va_W) (hRel : Rel E ad ma C M) (z1 : Int) (z2 : Int) (hz1 : jr z1) (hz2 : jr z2) : StepI E ad ma Y_X6_row Y_X7_row [.ref (ad 0), .int (iI z1), .int (iI z2)] [.ref (ma 0), .int (iI z1), .int (iI z2)] C M := by
  refine Rel_elim (P := fun C M => StepI E ad ma Y_X6_row Y_X7_row [.ref (ad 0), .int (iI z1), .int (iI z2)] [.ref (ma 0), .int (iI z1), .int (iI z2)] C M) hRel ?_
  intro ra ia fnd ask fm nr rr wd N nc f sh mm w pl H hp hq kw kn kf nd pa de sz fi mt md mi tw tb tn tf tsh tmm tws tpl thr ask2 rw0 it md0 mm2 ua uw kp kni kwi pi pd ab pal hA hR hX hK hF hask hmm
  have hn := iX_n hX
  by_cases hb : z1 < 0 ∨ 4 ≤ z1 ∨ 48 < z2
  · refine ⟨iI (-1), (fun N0 => N0 = CW E ad ra ia fnd ask fm nr rr (wd : Int) ((nB N wd : Nat) : Int) nc f sh mm w pl ((List.length H : Nat) : Int) hp hq kw kn kf (nd : Int) pa de sz fi mt md mi tw tb tn tf tsh tmm tws tpl), (fun N0 => N0 = MW E ma 0 ask2 fnd fm nr rw0 (N : Int) (wd : Int) it md0 mm2 ua uw ((List.length H : Nat) : Int) kp kni kwi pi pd (nd : Int) ab pal), ?_, fun N0 h => by subst h; rfl, ?_, fun N0 h => by subst h; rfl, ?_⟩
    · refine (MC.frame (M := CW E ad ra ia fnd ask fm nr rr (wd : Int) ((nB N wd : Nat) : Int) nc f sh mm w pl ((List.length H : Nat) : Int) hp hq kw kn kf (nd : Int) pa de sz fi mt md mi tw tb tn tf tsh tmm tws tpl) [0] (c_X6_row_bad E (ad 0) (ad 1) (ad 17) (ad 24) (ad 10) (ad 27) (ad 42) fnd ask z1 z2 hz1 hz2 hb) rfl rfl (by rintro _ _ ⟨rfl, rfl⟩; rfl)).mono ?_
      rintro _ _ ⟨_, ⟨rfl, rfl⟩, rfl⟩
      exact ⟨rfl, rfl⟩
    · refine (MC.frame (M := MW E ma thr ask2 fnd fm nr rw0 (N : Int) (wd : Int) it md0 mm2 ua uw ((List.length H : Nat) : Int) kp kni kwi pi pd (nd : Int) ab pal) [0] (c_X7_row_bad E fnd ask2 (wd : Int) (N : Int) mm2 ((List.length H : Nat) : Int) (nd : Int) (ma 0) (ma 1) (ma 2) (ma 3) (ma 4) (ma 5) (ma 6) (ma 7) (ma 8) (ma 9) (ma 10) (ma 11) (ma 12) thr pd pal z1 z2 hz1 hz2 hb) rfl rfl (by rintro _ _ ⟨rfl, rfl⟩; rfl)).mono ?_
      rintro _ _ ⟨_, ⟨rfl, rfl⟩, rfl⟩
      exact ⟨rfl, rfl⟩
    · rintro _ _ rfl rfl
      exact ⟨ra, ia, fnd, ask, fm, nr, rr, wd, N, nc, f, sh, mm, w, pl, H, hp, hq, kw, kn, kf, nd, pa, de, sz, fi, mt, md, mi, tw, tb, tn, tf, tsh, tmm, tws, tpl, 0, ask2, rw0, it, md0, mm2, ua, uw, kp, kni, kwi, pi, pd, ab, pal, rfl, rfl, hA, hR, hX, hK, hF, hask, hmm⟩
  · obtain ⟨r, rfl⟩ : ∃ q : Nat, z1 = (q : Int) := ⟨z1.toNat, by omega⟩
    have hr4 : r < 4 := by omega
    by_cases h0 : z2 < 0
    · refine ⟨iI (rz 3), (fun N0 => N0 = CW E ad ra ia (rf 3 fnd) ask (rm 3 fm) nr rr (wd : Int) ((nB N wd : Nat) : Int) nc f sh mm w pl ((List.length H : Nat) : Int) hp hq kw kn kf (nd : Int) pa de sz fi mt md mi tw tb tn tf tsh tmm tws tpl), (fun N0 => N0 = MW E ma 0 ask2 (rf 3 fnd) (rm 3 fm) nr rw0 (N : Int) (wd : Int) it md0 mm2 ua uw ((List.length H : Nat) : Int) kp kni kwi pi pd (nd : Int) ab pal), ?_, fun N0 h => by subst h; rfl, ?_, fun N0 h => by subst h; rfl, ?_⟩
      · refine (MC.frame (M := CW E ad ra ia fnd ask fm nr rr (wd : Int) ((nB N wd : Nat) : Int) nc f sh mm w pl ((List.length H : Nat) : Int) hp hq kw kn kf (nd : Int) pa de sz fi mt md mi tw tb tn tf tsh tmm tws tpl) [0, 42] (c_X6_row_no E (ad 0) (ad 1) (ad 17) (ad 24) (ad 10) (ad 27) (ad 42) fnd ask fm r z2 3 (by omega) hz2 (by omega)) rfl rfl (by rintro _ _ ⟨rfl, rfl⟩; rfl)).mono ?_
        rintro _ _ ⟨_, ⟨rfl, rfl⟩, rfl⟩
        exact ⟨rfl, rfl⟩
      · refine (MC.frame (M := MW E ma thr ask2 fnd fm nr rw0 (N : Int) (wd : Int) it md0 mm2 ua uw ((List.length H : Nat) : Int) kp kni kwi pi pd (nd : Int) ab pal) [0, 1] (c_X7_row_no E fnd ask2 (wd : Int) (N : Int) mm2 ((List.length H : Nat) : Int) (nd : Int) fm (ma 0) (ma 1) (ma 2) (ma 3) (ma 4) (ma 5) (ma 6) (ma 7) (ma 8) (ma 9) (ma 10) (ma 11) (ma 12) thr pd pal r z2 3 (by omega) hz2 (by omega)) rfl rfl (by rintro _ _ ⟨rfl, rfl⟩; rfl)).mono ?_
        rintro _ _ ⟨_, ⟨rfl, rfl⟩, rfl⟩
        exact ⟨rfl, rfl⟩
      · rintro _ _ rfl rfl
        exact ⟨ra, ia, (rf 3 fnd), ask, (rm 3 fm), nr, rr, wd, N, nc, f, sh, mm, w, pl, H, hp, hq, kw, kn, kf, nd, pa, de, sz, fi, mt, md, mi, tw, tb, tn, tf, tsh, tmm, tws, tpl, 0, ask2, rw0, it, md0, mm2, ua, uw, kp, kni, kwi, pi, pd, ab, pal, rfl, rfl, hA, hR, hX, hK, hF, hask, hmm⟩
    · obtain ⟨n0, rfl⟩ : ∃ q : Nat, z2 = (q : Int) := ⟨z2.toNat, by omega⟩
      obtain ⟨hN, hrw⟩ := hR r hr4
      have hra := hA.1 r hr4
      refine ⟨iI ((n0 : Int)), (fun N0 => N0 = CW E ad ra ia fnd ask fm (setI nr r (n0 : Int)) (setA rr r (fa (iI 0) 48 (rr r))) (wd : Int) ((nB N wd : Nat) : Int) nc f sh mm w pl ((List.length H : Nat) : Int) hp hq kw kn kf (nd : Int) pa de sz fi mt md mi tw tb tn tf tsh tmm tws tpl), (fun N0 => N0 = MW E ma 0 ask2 fnd fm (setI nr r (n0 : Int)) (zrF rw0 (48 * r) n0) (N : Int) (wd : Int) it md0 mm2 ua uw ((List.length H : Nat) : Int) kp kni kwi pi pd (nd : Int) ab pal), ?_, fun N0 h => by subst h; rfl, ?_, fun N0 h => by subst h; rfl, ?_⟩
      · refine (MC.frame (M := CW E ad ra ia fnd ask fm nr rr (wd : Int) ((nB N wd : Nat) : Int) nc f sh mm w pl ((List.length H : Nat) : Int) hp hq kw kn kf (nd : Int) pa de sz fi mt md mi tw tb tn tf tsh tmm tws tpl) [0, 1, (2 + 2 * r), (3 + 2 * r)] (c_X6_row_ok E (ad 0) (ad 1) (ad 17) (ad 24) (ad 10) (ad 27) (ad 42) (ad (2 + 2 * r)) (ad (3 + 2 * r)) fnd ask (nr r) ra (rr r) r n0 (by omega) hra hN (by omega)) (by rcases lt4 hr4 with rfl | rfl | rfl | rfl <;> rfl) (by rcases lt4 hr4 with rfl | rfl | rfl | rfl <;> rfl) (by rintro _ _ ⟨rfl, rfl⟩; rfl)).mono ?_
        rintro _ _ ⟨_, ⟨rfl, rfl⟩, rfl⟩
        exact ⟨rfl, (by rcases lt4 hr4 with rfl | rfl | rfl | rfl <;> rfl)⟩
      · refine (MC.frame (M := MW E ma thr ask2 fnd fm nr rw0 (N : Int) (wd : Int) it md0 mm2 ua uw ((List.length H : Nat) : Int) kp kni kwi pi pd (nd : Int) ab pal) [0, 2, 3] (c_X7_row_ok E fnd ask2 (wd : Int) (N : Int) mm2 ((List.length H : Nat) : Int) (nd : Int) (ma 0) (ma 1) (ma 2) (ma 3) (ma 4) (ma 5) (ma 6) (ma 7) (ma 8) (ma 9) (ma 10) (ma 11) (ma 12) thr pd pal nr rw0 r n0 (by omega) (by omega)) rfl rfl (by rintro _ _ ⟨rfl, rfl⟩; rfl)).mono ?_
        rintro _ _ ⟨_, ⟨rfl, rfl⟩, rfl⟩
        exact ⟨rfl, rfl⟩
      · rintro _ _ rfl rfl
        exact ⟨ra, ia, fnd, ask, fm, (setI nr r (n0 : Int)), (setA rr r (fa (iI 0) 48 (rr r))), wd, N, nc, f, sh, mm, w, pl, H, hp, hq, kw, kn, kf, nd, pa, de, sz, fi, mt, md, mi, tw, tb, tn, tf, tsh, tmm, tws, tpl, 0, ask2, (zrF rw0 (48 * r) n0), it, md0, mm2, ua, uw, kp, kni, kwi, pi, pd, ab, pal, rfl, rfl, hA, (fun q hq => by
          unfold setI setA
          by_cases e : q = r
          · subst e
            rw [if_pos rfl, if_pos rfl]
            refine ⟨by omega, fun j hj => ?_⟩
            unfold fa zrF
            rw [if_pos (by omega), if_pos (by omega)]
          · rw [if_neg e, if_neg e]
            refine ⟨(hR q hq).1, fun j hj => ?_⟩
            have := (hR q hq).1
            unfold zrF
            rw [if_neg (by omega)]
            exact (hR q hq).2 j hj), hX, hK, hF, hask, hmm⟩

set_option maxRecDepth 100000 in
set_option maxHeartbeats 4000000 in
theorem st_at (E : jD) (ad ma : Nat → Nat) (C M : va_W) (hRel : Rel E ad ma C M) (z1 : Int) (z2 : Int) (hz1 : jr z1) (hz2 : jr z2) : StepI E ad ma Y_X6_at Y_X7_at [.ref (ad 0), .int (iI z1), .int (iI z2)] [.ref (ma 0), .int (iI z1), .int (iI z2)] C M := by
  refine Rel_elim (P := fun C M => StepI E ad ma Y_X6_at Y_X7_at [.ref (ad 0), .int (iI z1), .int (iI z2)] [.ref (ma 0), .int (iI z1), .int (iI z2)] C M) hRel ?_
  intro ra ia fnd ask fm nr rr wd N nc f sh mm w pl H hp hq kw kn kf nd pa de sz fi mt md mi tw tb tn tf tsh tmm tws tpl thr ask2 rw0 it md0 mm2 ua uw kp kni kwi pi pd ab pal hA hR hX hK hF hask hmm
  have hn := iX_n hX
  by_cases hb : z1 < 0 ∨ 4 ≤ z1
  · refine ⟨iI (-1), (fun N0 => N0 = CW E ad ra ia fnd ask fm nr rr (wd : Int) ((nB N wd : Nat) : Int) nc f sh mm w pl ((List.length H : Nat) : Int) hp hq kw kn kf (nd : Int) pa de sz fi mt md mi tw tb tn tf tsh tmm tws tpl), (fun N0 => N0 = MW E ma 0 ask2 fnd fm nr rw0 (N : Int) (wd : Int) it md0 mm2 ua uw ((List.length H : Nat) : Int) kp kni kwi pi pd (nd : Int) ab pal), ?_, fun N0 h => by subst h; rfl, ?_, fun N0 h => by subst h; rfl, ?_⟩
    · refine (MC.frame (M := CW E ad ra ia fnd ask fm nr rr (wd : Int) ((nB N wd : Nat) : Int) nc f sh mm w pl ((List.length H : Nat) : Int) hp hq kw kn kf (nd : Int) pa de sz fi mt md mi tw tb tn tf tsh tmm tws tpl) [0] (c_X6_at_bad E (ad 0) (ad 1) (ad 17) (ad 24) (ad 10) (ad 27) (ad 42) fnd ask z1 z2 hz1 hb) rfl rfl (by rintro _ _ ⟨rfl, rfl⟩; rfl)).mono ?_
      rintro _ _ ⟨_, ⟨rfl, rfl⟩, rfl⟩
      exact ⟨rfl, rfl⟩
    · refine (MC.frame (M := MW E ma thr ask2 fnd fm nr rw0 (N : Int) (wd : Int) it md0 mm2 ua uw ((List.length H : Nat) : Int) kp kni kwi pi pd (nd : Int) ab pal) [0] (c_X7_at_bad E fnd ask2 (wd : Int) (N : Int) mm2 ((List.length H : Nat) : Int) (nd : Int) (ma 0) (ma 1) (ma 2) (ma 3) (ma 4) (ma 5) (ma 6) (ma 7) (ma 8) (ma 9) (ma 10) (ma 11) (ma 12) thr pd pal z1 z2 hz1 hb) rfl rfl (by rintro _ _ ⟨rfl, rfl⟩; rfl)).mono ?_
      rintro _ _ ⟨_, ⟨rfl, rfl⟩, rfl⟩
      exact ⟨rfl, rfl⟩
    · rintro _ _ rfl rfl
      exact ⟨ra, ia, fnd, ask, fm, nr, rr, wd, N, nc, f, sh, mm, w, pl, H, hp, hq, kw, kn, kf, nd, pa, de, sz, fi, mt, md, mi, tw, tb, tn, tf, tsh, tmm, tws, tpl, 0, ask2, rw0, it, md0, mm2, ua, uw, kp, kni, kwi, pi, pd, ab, pal, rfl, rfl, hA, hR, hX, hK, hF, hask, hmm⟩
  · obtain ⟨r, rfl⟩ : ∃ q : Nat, z1 = (q : Int) := ⟨z1.toNat, by omega⟩
    have hr4 : r < 4 := by omega
    obtain ⟨hN, hrw⟩ := hR r hr4
    have hra := hA.1 r hr4
    by_cases hok : 0 ≤ z2 ∧ z2 < nr r
    · obtain ⟨i, rfl⟩ : ∃ q : Nat, z2 = (q : Int) := ⟨z2.toNat, by omega⟩
      refine ⟨iI (1), (fun N0 => N0 = CW E ad ra ia fnd (rr r i).toInt fm nr rr (wd : Int) ((nB N wd : Nat) : Int) nc f sh mm w pl ((List.length H : Nat) : Int) hp hq kw kn kf (nd : Int) pa de sz fi mt md mi tw tb tn tf tsh tmm tws tpl), (fun N0 => N0 = MW E ma 0 (rw0 (48 * r + i)).toInt fnd fm nr rw0 (N : Int) (wd : Int) it md0 mm2 ua uw ((List.length H : Nat) : Int) kp kni kwi pi pd (nd : Int) ab pal), ?_, fun N0 h => by subst h; rfl, ?_, fun N0 h => by subst h; rfl, ?_⟩
      · refine (MC.frame (M := CW E ad ra ia fnd ask fm nr rr (wd : Int) ((nB N wd : Nat) : Int) nc f sh mm w pl ((List.length H : Nat) : Int) hp hq kw kn kf (nd : Int) pa de sz fi mt md mi tw tb tn tf tsh tmm tws tpl) [0, 42, 1, (2 + 2 * r), (3 + 2 * r)] (c_X6_at_ok E (ad 0) (ad 1) (ad 17) (ad 24) (ad 10) (ad 27) (ad 42) (ad (2 + 2 * r)) (ad (3 + 2 * r)) fnd ask (nr r) fm ra (rr r) r i (by omega) hra hN (by omega)) (by rcases lt4 hr4 with rfl | rfl | rfl | rfl <;> rfl) (by rcases lt4 hr4 with rfl | rfl | rfl | rfl <;> rfl) (by rintro _ _ ⟨rfl, rfl⟩; rfl)).mono ?_
        rintro _ _ ⟨_, ⟨rfl, rfl⟩, rfl⟩
        exact ⟨rfl, (by rcases lt4 hr4 with rfl | rfl | rfl | rfl <;> rfl)⟩
      · refine (MC.frame (M := MW E ma thr ask2 fnd fm nr rw0 (N : Int) (wd : Int) it md0 mm2 ua uw ((List.length H : Nat) : Int) kp kni kwi pi pd (nd : Int) ab pal) [0, 2, 3] (c_X7_at_ok E fnd ask2 (wd : Int) (N : Int) mm2 ((List.length H : Nat) : Int) (nd : Int) (ma 0) (ma 1) (ma 2) (ma 3) (ma 4) (ma 5) (ma 6) (ma 7) (ma 8) (ma 9) (ma 10) (ma 11) (ma 12) thr pd pal nr rw0 r i (by omega) hN (by omega)) rfl rfl (by rintro _ _ ⟨rfl, rfl⟩; rfl)).mono ?_
        rintro _ _ ⟨_, ⟨rfl, rfl⟩, rfl⟩
        exact ⟨rfl, rfl⟩
      · rintro _ _ rfl rfl
        exact ⟨ra, ia, fnd, (rr r i).toInt, fm, nr, rr, wd, N, nc, f, sh, mm, w, pl, H, hp, hq, kw, kn, kf, nd, pa, de, sz, fi, mt, md, mi, tw, tb, tn, tf, tsh, tmm, tws, tpl, 0, (rw0 (48 * r + i)).toInt, rw0, it, md0, mm2, ua, uw, kp, kni, kwi, pi, pd, ab, pal, rfl, rfl, hA, hR, hX, hK, hF, (by rw [hrw i (by omega)]), hmm⟩
    · obtain ⟨c, hc⟩ : ∃ c : Int, (nr r < 0 ∧ c = 1) ∨ (0 ≤ nr r ∧ (z2 < 0 ∨ nr r ≤ z2) ∧ c = 2) := by
        by_cases h0 : nr r < 0
        · exact ⟨1, Or.inl ⟨h0, rfl⟩⟩
        · exact ⟨2, Or.inr ⟨by omega, by omega, rfl⟩⟩
      refine ⟨iI (rz c), (fun N0 => N0 = CW E ad ra ia (rf c fnd) ask (rm c fm) nr rr (wd : Int) ((nB N wd : Nat) : Int) nc f sh mm w pl ((List.length H : Nat) : Int) hp hq kw kn kf (nd : Int) pa de sz fi mt md mi tw tb tn tf tsh tmm tws tpl), (fun N0 => N0 = MW E ma 0 ask2 (rf c fnd) (rm c fm) nr rw0 (N : Int) (wd : Int) it md0 mm2 ua uw ((List.length H : Nat) : Int) kp kni kwi pi pd (nd : Int) ab pal), ?_, fun N0 h => by subst h; rfl, ?_, fun N0 h => by subst h; rfl, ?_⟩
      · refine (MC.frame (M := CW E ad ra ia fnd ask fm nr rr (wd : Int) ((nB N wd : Nat) : Int) nc f sh mm w pl ((List.length H : Nat) : Int) hp hq kw kn kf (nd : Int) pa de sz fi mt md mi tw tb tn tf tsh tmm tws tpl) [0, 42, 1, (2 + 2 * r)] (c_X6_at_no E (ad 0) (ad 1) (ad 17) (ad 24) (ad 10) (ad 27) (ad 42) (ad (2 + 2 * r)) (ad (3 + 2 * r)) fnd ask (nr r) fm ra r z2 c (by omega) hra hN hz2 hc) (by rcases lt4 hr4 with rfl | rfl | rfl | rfl <;> rfl) (by rcases lt4 hr4 with rfl | rfl | rfl | rfl <;> rfl) (by rintro _ _ ⟨rfl, rfl⟩; rfl)).mono ?_
        rintro _ _ ⟨_, ⟨rfl, rfl⟩, rfl⟩
        exact ⟨rfl, (by rcases lt4 hr4 with rfl | rfl | rfl | rfl <;> rfl)⟩
      · refine (MC.frame (M := MW E ma thr ask2 fnd fm nr rw0 (N : Int) (wd : Int) it md0 mm2 ua uw ((List.length H : Nat) : Int) kp kni kwi pi pd (nd : Int) ab pal) [0, 1, 3] (c_X7_at_no E fnd ask2 (wd : Int) (N : Int) mm2 ((List.length H : Nat) : Int) (nd : Int) fm (ma 0) (ma 1) (ma 2) (ma 3) (ma 4) (ma 5) (ma 6) (ma 7) (ma 8) (ma 9) (ma 10) (ma 11) (ma 12) thr pd pal nr r z2 c (by omega) hN hz2 hc) rfl rfl (by rintro _ _ ⟨rfl, rfl⟩; rfl)).mono ?_
        rintro _ _ ⟨_, ⟨rfl, rfl⟩, rfl⟩
        exact ⟨rfl, rfl⟩
      · rintro _ _ rfl rfl
        exact ⟨ra, ia, (rf c fnd), ask, (rm c fm), nr, rr, wd, N, nc, f, sh, mm, w, pl, H, hp, hq, kw, kn, kf, nd, pa, de, sz, fi, mt, md, mi, tw, tb, tn, tf, tsh, tmm, tws, tpl, 0, ask2, rw0, it, md0, mm2, ua, uw, kp, kni, kwi, pi, pd, ab, pal, rfl, rfl, hA, hR, hX, hK, hF, hask, hmm⟩

set_option maxRecDepth 100000 in
set_option maxHeartbeats 4000000 in
theorem st_lay (E : jD) (ad ma : Nat → Nat) (C M : va_W) (hRel : Rel E ad ma C M) (z1 : Int) (z2 : Int) (z3 : Int) (hz1 : jr z1) (hz2 : jr z2) (hz3 : jr z3) : StepI E ad ma Y_X6_lay Y_X7_lay [.ref (ad 0), .int (iI z1), .int (iI z2), .int (iI z3)] [.ref (ma 0), .int (iI z1), .int (iI z2), .int (iI z3)] C M := by
  refine Rel_elim (P := fun C M => StepI E ad ma Y_X6_lay Y_X7_lay [.ref (ad 0), .int (iI z1), .int (iI z2), .int (iI z3)] [.ref (ma 0), .int (iI z1), .int (iI z2), .int (iI z3)] C M) hRel ?_
  intro ra ia fnd ask fm nr rr wd N nc f sh mm w pl H hp hq kw kn kf nd pa de sz fi mt md mi tw tb tn tf tsh tmm tws tpl thr ask2 rw0 it md0 mm2 ua uw kp kni kwi pi pd ab pal hA hR hX hK hF hask hmm
  have hn := iX_n hX
  by_cases hb : z1 < 0 ∨ 4 ≤ z1
  · refine ⟨iI (-1), (fun N0 => N0 = CW E ad ra ia fnd ask fm nr rr (wd : Int) ((nB N wd : Nat) : Int) nc f sh mm w pl ((List.length H : Nat) : Int) hp hq kw kn kf (nd : Int) pa de sz fi mt md mi tw tb tn tf tsh tmm tws tpl), (fun N0 => N0 = MW E ma 0 ask2 fnd fm nr rw0 (N : Int) (wd : Int) it md0 mm2 ua uw ((List.length H : Nat) : Int) kp kni kwi pi pd (nd : Int) ab pal), ?_, fun N0 h => by subst h; rfl, ?_, fun N0 h => by subst h; rfl, ?_⟩
    · refine (MC.frame (M := CW E ad ra ia fnd ask fm nr rr (wd : Int) ((nB N wd : Nat) : Int) nc f sh mm w pl ((List.length H : Nat) : Int) hp hq kw kn kf (nd : Int) pa de sz fi mt md mi tw tb tn tf tsh tmm tws tpl) [0] (c_X6_lay_bad E (ad 0) (ad 1) (ad 17) (ad 24) (ad 10) (ad 27) (ad 42) fnd ask z1 z2 (iI z3) hz1 hb) rfl rfl (by rintro _ _ ⟨rfl, rfl⟩; rfl)).mono ?_
      rintro _ _ ⟨_, ⟨rfl, rfl⟩, rfl⟩
      exact ⟨rfl, rfl⟩
    · refine (MC.frame (M := MW E ma thr ask2 fnd fm nr rw0 (N : Int) (wd : Int) it md0 mm2 ua uw ((List.length H : Nat) : Int) kp kni kwi pi pd (nd : Int) ab pal) [0] (c_X7_lay_bad E fnd ask2 (wd : Int) (N : Int) mm2 ((List.length H : Nat) : Int) (nd : Int) (ma 0) (ma 1) (ma 2) (ma 3) (ma 4) (ma 5) (ma 6) (ma 7) (ma 8) (ma 9) (ma 10) (ma 11) (ma 12) thr pd pal z1 z2 (iI z3) hz1 hb) rfl rfl (by rintro _ _ ⟨rfl, rfl⟩; rfl)).mono ?_
      rintro _ _ ⟨_, ⟨rfl, rfl⟩, rfl⟩
      exact ⟨rfl, rfl⟩
    · rintro _ _ rfl rfl
      exact ⟨ra, ia, fnd, ask, fm, nr, rr, wd, N, nc, f, sh, mm, w, pl, H, hp, hq, kw, kn, kf, nd, pa, de, sz, fi, mt, md, mi, tw, tb, tn, tf, tsh, tmm, tws, tpl, 0, ask2, rw0, it, md0, mm2, ua, uw, kp, kni, kwi, pi, pd, ab, pal, rfl, rfl, hA, hR, hX, hK, hF, hask, hmm⟩
  · obtain ⟨r, rfl⟩ : ∃ q : Nat, z1 = (q : Int) := ⟨z1.toNat, by omega⟩
    have hr4 : r < 4 := by omega
    obtain ⟨hN, hrw⟩ := hR r hr4
    have hra := hA.1 r hr4
    by_cases hok : 0 ≤ z2 ∧ z2 < nr r
    · obtain ⟨i, rfl⟩ : ∃ q : Nat, z2 = (q : Int) := ⟨z2.toNat, by omega⟩
      refine ⟨iI (1), (fun N0 => N0 = CW E ad ra ia fnd (rr r i).toInt fm nr (setA rr r (upd (rr r) i (iI z3))) (wd : Int) ((nB N wd : Nat) : Int) nc f sh mm w pl ((List.length H : Nat) : Int) hp hq kw kn kf (nd : Int) pa de sz fi mt md mi tw tb tn tf tsh tmm tws tpl), (fun N0 => N0 = MW E ma 0 (rw0 (48 * r + i)).toInt fnd fm nr (upd rw0 (48 * r + i) (iI z3)) (N : Int) (wd : Int) it md0 mm2 ua uw ((List.length H : Nat) : Int) kp kni kwi pi pd (nd : Int) ab pal), ?_, fun N0 h => by subst h; rfl, ?_, fun N0 h => by subst h; rfl, ?_⟩
      · refine (MC.frame (M := CW E ad ra ia fnd ask fm nr rr (wd : Int) ((nB N wd : Nat) : Int) nc f sh mm w pl ((List.length H : Nat) : Int) hp hq kw kn kf (nd : Int) pa de sz fi mt md mi tw tb tn tf tsh tmm tws tpl) [0, 42, 1, (2 + 2 * r), (3 + 2 * r)] (c_X6_lay_ok E (ad 0) (ad 1) (ad 17) (ad 24) (ad 10) (ad 27) (ad 42) (ad (2 + 2 * r)) (ad (3 + 2 * r)) fnd ask (nr r) fm ra (rr r) r i (iI z3) (by omega) hra hN (by omega)) (by rcases lt4 hr4 with rfl | rfl | rfl | rfl <;> rfl) (by rcases lt4 hr4 with rfl | rfl | rfl | rfl <;> rfl) (by rintro _ _ ⟨rfl, rfl⟩; rfl)).mono ?_
        rintro _ _ ⟨_, ⟨rfl, rfl⟩, rfl⟩
        exact ⟨rfl, (by rcases lt4 hr4 with rfl | rfl | rfl | rfl <;> rfl)⟩
      · refine (MC.frame (M := MW E ma thr ask2 fnd fm nr rw0 (N : Int) (wd : Int) it md0 mm2 ua uw ((List.length H : Nat) : Int) kp kni kwi pi pd (nd : Int) ab pal) [0, 2, 3] (c_X7_lay_ok E fnd ask2 (wd : Int) (N : Int) mm2 ((List.length H : Nat) : Int) (nd : Int) (ma 0) (ma 1) (ma 2) (ma 3) (ma 4) (ma 5) (ma 6) (ma 7) (ma 8) (ma 9) (ma 10) (ma 11) (ma 12) thr pd pal nr rw0 r i (iI z3) (by omega) hN (by omega)) rfl rfl (by rintro _ _ ⟨rfl, rfl⟩; rfl)).mono ?_
        rintro _ _ ⟨_, ⟨rfl, rfl⟩, rfl⟩
        exact ⟨rfl, rfl⟩
      · rintro _ _ rfl rfl
        exact ⟨ra, ia, fnd, (rr r i).toInt, fm, nr, (setA rr r (upd (rr r) i (iI z3))), wd, N, nc, f, sh, mm, w, pl, H, hp, hq, kw, kn, kf, nd, pa, de, sz, fi, mt, md, mi, tw, tb, tn, tf, tsh, tmm, tws, tpl, 0, (rw0 (48 * r + i)).toInt, (upd rw0 (48 * r + i) (iI z3)), it, md0, mm2, ua, uw, kp, kni, kwi, pi, pd, ab, pal, rfl, rfl, hA, (fun q hq => by
          have hq1 := (hR q hq).1
          refine ⟨hq1, fun j hj => ?_⟩
          unfold setA
          by_cases e : q = r
          · subst e
            rw [if_pos rfl]
            by_cases ej : j = i
            · subst ej
              rw [upd_at, upd_at]
            · rw [upd_ne ej, upd_ne (by omega)]
              exact hrw j hj
          · rw [if_neg e, upd_ne (by omega)]
            exact (hR q hq).2 j hj), hX, hK, hF, (by rw [hrw i (by omega)]), hmm⟩
    · obtain ⟨c, hc⟩ : ∃ c : Int, (nr r < 0 ∧ c = 1) ∨ (0 ≤ nr r ∧ (z2 < 0 ∨ nr r ≤ z2) ∧ c = 2) := by
        by_cases h0 : nr r < 0
        · exact ⟨1, Or.inl ⟨h0, rfl⟩⟩
        · exact ⟨2, Or.inr ⟨by omega, by omega, rfl⟩⟩
      refine ⟨iI (rz c), (fun N0 => N0 = CW E ad ra ia (rf c fnd) ask (rm c fm) nr rr (wd : Int) ((nB N wd : Nat) : Int) nc f sh mm w pl ((List.length H : Nat) : Int) hp hq kw kn kf (nd : Int) pa de sz fi mt md mi tw tb tn tf tsh tmm tws tpl), (fun N0 => N0 = MW E ma 0 ask2 (rf c fnd) (rm c fm) nr rw0 (N : Int) (wd : Int) it md0 mm2 ua uw ((List.length H : Nat) : Int) kp kni kwi pi pd (nd : Int) ab pal), ?_, fun N0 h => by subst h; rfl, ?_, fun N0 h => by subst h; rfl, ?_⟩
      · refine (MC.frame (M := CW E ad ra ia fnd ask fm nr rr (wd : Int) ((nB N wd : Nat) : Int) nc f sh mm w pl ((List.length H : Nat) : Int) hp hq kw kn kf (nd : Int) pa de sz fi mt md mi tw tb tn tf tsh tmm tws tpl) [0, 42, 1, (2 + 2 * r)] (c_X6_lay_no E (ad 0) (ad 1) (ad 17) (ad 24) (ad 10) (ad 27) (ad 42) (ad (2 + 2 * r)) (ad (3 + 2 * r)) fnd ask (nr r) fm ra r z2 c (iI z3) (by omega) hra hN hz2 hc) (by rcases lt4 hr4 with rfl | rfl | rfl | rfl <;> rfl) (by rcases lt4 hr4 with rfl | rfl | rfl | rfl <;> rfl) (by rintro _ _ ⟨rfl, rfl⟩; rfl)).mono ?_
        rintro _ _ ⟨_, ⟨rfl, rfl⟩, rfl⟩
        exact ⟨rfl, (by rcases lt4 hr4 with rfl | rfl | rfl | rfl <;> rfl)⟩
      · refine (MC.frame (M := MW E ma thr ask2 fnd fm nr rw0 (N : Int) (wd : Int) it md0 mm2 ua uw ((List.length H : Nat) : Int) kp kni kwi pi pd (nd : Int) ab pal) [0, 1, 3] (c_X7_lay_no E fnd ask2 (wd : Int) (N : Int) mm2 ((List.length H : Nat) : Int) (nd : Int) fm (ma 0) (ma 1) (ma 2) (ma 3) (ma 4) (ma 5) (ma 6) (ma 7) (ma 8) (ma 9) (ma 10) (ma 11) (ma 12) thr pd pal nr r z2 c (iI z3) (by omega) hN hz2 hc) rfl rfl (by rintro _ _ ⟨rfl, rfl⟩; rfl)).mono ?_
        rintro _ _ ⟨_, ⟨rfl, rfl⟩, rfl⟩
        exact ⟨rfl, rfl⟩
      · rintro _ _ rfl rfl
        exact ⟨ra, ia, (rf c fnd), ask, (rm c fm), nr, rr, wd, N, nc, f, sh, mm, w, pl, H, hp, hq, kw, kn, kf, nd, pa, de, sz, fi, mt, md, mi, tw, tb, tn, tf, tsh, tmm, tws, tpl, 0, ask2, rw0, it, md0, mm2, ua, uw, kp, kni, kwi, pi, pd, ab, pal, rfl, rfl, hA, hR, hX, hK, hF, hask, hmm⟩

set_option maxRecDepth 100000 in
set_option maxHeartbeats 4000000 in
theorem st_tear (E : jD) (ad ma : Nat → Nat) (C M : va_W) (hRel : Rel E ad ma C M) (z1 : Int) (hz1 : jr z1) : StepI E ad ma Y_X6_tear Y_X7_tear [.ref (ad 0), .int (iI z1)] [.ref (ma 0), .int (iI z1)] C M := by
  refine Rel_elim (P := fun C M => StepI E ad ma Y_X6_tear Y_X7_tear [.ref (ad 0), .int (iI z1)] [.ref (ma 0), .int (iI z1)] C M) hRel ?_
  intro ra ia fnd ask fm nr rr wd N nc f sh mm w pl H hp hq kw kn kf nd pa de sz fi mt md mi tw tb tn tf tsh tmm tws tpl thr ask2 rw0 it md0 mm2 ua uw kp kni kwi pi pd ab pal hA hR hX hK hF hask hmm
  have hn := iX_n hX
  by_cases hb : z1 < 0 ∨ 4 ≤ z1
  · refine ⟨iI (-1), (fun N0 => N0 = CW E ad ra ia fnd ask fm nr rr (wd : Int) ((nB N wd : Nat) : Int) nc f sh mm w pl ((List.length H : Nat) : Int) hp hq kw kn kf (nd : Int) pa de sz fi mt md mi tw tb tn tf tsh tmm tws tpl), (fun N0 => N0 = MW E ma 0 ask2 fnd fm nr rw0 (N : Int) (wd : Int) it md0 mm2 ua uw ((List.length H : Nat) : Int) kp kni kwi pi pd (nd : Int) ab pal), ?_, fun N0 h => by subst h; rfl, ?_, fun N0 h => by subst h; rfl, ?_⟩
    · refine (MC.frame (M := CW E ad ra ia fnd ask fm nr rr (wd : Int) ((nB N wd : Nat) : Int) nc f sh mm w pl ((List.length H : Nat) : Int) hp hq kw kn kf (nd : Int) pa de sz fi mt md mi tw tb tn tf tsh tmm tws tpl) [0] (c_X6_tear_bad E (ad 0) (ad 1) (ad 17) (ad 24) (ad 10) (ad 27) (ad 42) fnd ask z1 hz1 hb) rfl rfl (by rintro _ _ ⟨rfl, rfl⟩; rfl)).mono ?_
      rintro _ _ ⟨_, ⟨rfl, rfl⟩, rfl⟩
      exact ⟨rfl, rfl⟩
    · refine (MC.frame (M := MW E ma thr ask2 fnd fm nr rw0 (N : Int) (wd : Int) it md0 mm2 ua uw ((List.length H : Nat) : Int) kp kni kwi pi pd (nd : Int) ab pal) [0] (c_X7_tear_bad E fnd ask2 (wd : Int) (N : Int) mm2 ((List.length H : Nat) : Int) (nd : Int) (ma 0) (ma 1) (ma 2) (ma 3) (ma 4) (ma 5) (ma 6) (ma 7) (ma 8) (ma 9) (ma 10) (ma 11) (ma 12) thr pd pal z1 hz1 hb) rfl rfl (by rintro _ _ ⟨rfl, rfl⟩; rfl)).mono ?_
      rintro _ _ ⟨_, ⟨rfl, rfl⟩, rfl⟩
      exact ⟨rfl, rfl⟩
    · rintro _ _ rfl rfl
      exact ⟨ra, ia, fnd, ask, fm, nr, rr, wd, N, nc, f, sh, mm, w, pl, H, hp, hq, kw, kn, kf, nd, pa, de, sz, fi, mt, md, mi, tw, tb, tn, tf, tsh, tmm, tws, tpl, 0, ask2, rw0, it, md0, mm2, ua, uw, kp, kni, kwi, pi, pd, ab, pal, rfl, rfl, hA, hR, hX, hK, hF, hask, hmm⟩
  · obtain ⟨r, rfl⟩ : ∃ q : Nat, z1 = (q : Int) := ⟨z1.toNat, by omega⟩
    have hr4 : r < 4 := by omega
    obtain ⟨hN, hrw⟩ := hR r hr4
    have hra := hA.1 r hr4
    by_cases h0 : nr r < 0
    · refine ⟨iI (rz 1), (fun N0 => N0 = CW E ad ra ia (rf 1 fnd) ask (rm 1 fm) nr rr (wd : Int) ((nB N wd : Nat) : Int) nc f sh mm w pl ((List.length H : Nat) : Int) hp hq kw kn kf (nd : Int) pa de sz fi mt md mi tw tb tn tf tsh tmm tws tpl), (fun N0 => N0 = MW E ma 0 ask2 (rf 1 fnd) (rm 1 fm) nr rw0 (N : Int) (wd : Int) it md0 mm2 ua uw ((List.length H : Nat) : Int) kp kni kwi pi pd (nd : Int) ab pal), ?_, fun N0 h => by subst h; rfl, ?_, fun N0 h => by subst h; rfl, ?_⟩
      · refine (MC.frame (M := CW E ad ra ia fnd ask fm nr rr (wd : Int) ((nB N wd : Nat) : Int) nc f sh mm w pl ((List.length H : Nat) : Int) hp hq kw kn kf (nd : Int) pa de sz fi mt md mi tw tb tn tf tsh tmm tws tpl) [0, 42, 1, (2 + 2 * r)] (c_X6_tear_no E (ad 0) (ad 1) (ad 17) (ad 24) (ad 10) (ad 27) (ad 42) (ad (2 + 2 * r)) (ad (3 + 2 * r)) fnd ask (nr r) fm ra r 1 (by omega) hra hN (by omega)) (by rcases lt4 hr4 with rfl | rfl | rfl | rfl <;> rfl) (by rcases lt4 hr4 with rfl | rfl | rfl | rfl <;> rfl) (by rintro _ _ ⟨rfl, rfl⟩; rfl)).mono ?_
        rintro _ _ ⟨_, ⟨rfl, rfl⟩, rfl⟩
        exact ⟨rfl, (by rcases lt4 hr4 with rfl | rfl | rfl | rfl <;> rfl)⟩
      · refine (MC.frame (M := MW E ma thr ask2 fnd fm nr rw0 (N : Int) (wd : Int) it md0 mm2 ua uw ((List.length H : Nat) : Int) kp kni kwi pi pd (nd : Int) ab pal) [0, 1, 3] (c_X7_tear_no E fnd ask2 (wd : Int) (N : Int) mm2 ((List.length H : Nat) : Int) (nd : Int) fm (ma 0) (ma 1) (ma 2) (ma 3) (ma 4) (ma 5) (ma 6) (ma 7) (ma 8) (ma 9) (ma 10) (ma 11) (ma 12) thr pd pal nr r 1 (by omega) hN (by omega)) rfl rfl (by rintro _ _ ⟨rfl, rfl⟩; rfl)).mono ?_
        rintro _ _ ⟨_, ⟨rfl, rfl⟩, rfl⟩
        exact ⟨rfl, rfl⟩
      · rintro _ _ rfl rfl
        exact ⟨ra, ia, (rf 1 fnd), ask, (rm 1 fm), nr, rr, wd, N, nc, f, sh, mm, w, pl, H, hp, hq, kw, kn, kf, nd, pa, de, sz, fi, mt, md, mi, tw, tb, tn, tf, tsh, tmm, tws, tpl, 0, ask2, rw0, it, md0, mm2, ua, uw, kp, kni, kwi, pi, pd, ab, pal, rfl, rfl, hA, hR, hX, hK, hF, hask, hmm⟩
    · refine ⟨iI (nr r), (fun N0 => N0 = CW E ad ra ia fnd ask fm (setI nr r (-1)) rr (wd : Int) ((nB N wd : Nat) : Int) nc f sh mm w pl ((List.length H : Nat) : Int) hp hq kw kn kf (nd : Int) pa de sz fi mt md mi tw tb tn tf tsh tmm tws tpl), (fun N0 => N0 = MW E ma 0 ask2 fnd fm (setI nr r (-1)) rw0 (N : Int) (wd : Int) it md0 mm2 ua uw ((List.length H : Nat) : Int) kp kni kwi pi pd (nd : Int) ab pal), ?_, fun N0 h => by subst h; rfl, ?_, fun N0 h => by subst h; rfl, ?_⟩
      · refine (MC.frame (M := CW E ad ra ia fnd ask fm nr rr (wd : Int) ((nB N wd : Nat) : Int) nc f sh mm w pl ((List.length H : Nat) : Int) hp hq kw kn kf (nd : Int) pa de sz fi mt md mi tw tb tn tf tsh tmm tws tpl) [0, 1, (2 + 2 * r)] (c_X6_tear_ok E (ad 0) (ad 1) (ad 17) (ad 24) (ad 10) (ad 27) (ad 42) (ad (2 + 2 * r)) (ad (3 + 2 * r)) fnd ask (nr r) ra r (by omega) hra hN (by omega)) (by rcases lt4 hr4 with rfl | rfl | rfl | rfl <;> rfl) (by rcases lt4 hr4 with rfl | rfl | rfl | rfl <;> rfl) (by rintro _ _ ⟨rfl, rfl⟩; rfl)).mono ?_
        rintro _ _ ⟨_, ⟨rfl, rfl⟩, rfl⟩
        exact ⟨rfl, (by rcases lt4 hr4 with rfl | rfl | rfl | rfl <;> rfl)⟩
      · refine (MC.frame (M := MW E ma thr ask2 fnd fm nr rw0 (N : Int) (wd : Int) it md0 mm2 ua uw ((List.length H : Nat) : Int) kp kni kwi pi pd (nd : Int) ab pal) [0, 3] (c_X7_tear_ok E fnd ask2 (wd : Int) (N : Int) mm2 ((List.length H : Nat) : Int) (nd : Int) (ma 0) (ma 1) (ma 2) (ma 3) (ma 4) (ma 5) (ma 6) (ma 7) (ma 8) (ma 9) (ma 10) (ma 11) (ma 12) thr pd pal nr r (by omega) hN (by omega)) rfl rfl (by rintro _ _ ⟨rfl, rfl⟩; rfl)).mono ?_
        rintro _ _ ⟨_, ⟨rfl, rfl⟩, rfl⟩
        exact ⟨rfl, rfl⟩
      · rintro _ _ rfl rfl
        exact ⟨ra, ia, fnd, ask, fm, (setI nr r (-1)), rr, wd, N, nc, f, sh, mm, w, pl, H, hp, hq, kw, kn, kf, nd, pa, de, sz, fi, mt, md, mi, tw, tb, tn, tf, tsh, tmm, tws, tpl, 0, ask2, rw0, it, md0, mm2, ua, uw, kp, kni, kwi, pi, pd, ab, pal, rfl, rfl, hA, (fun q hq => by
          unfold setI
          by_cases e : q = r
          · rw [if_pos e]
            exact ⟨by omega, fun j hj => by omega⟩
          · rw [if_neg e]
            exact hR q hq), hX, hK, hF, hask, hmm⟩

set_option maxRecDepth 100000 in
set_option maxHeartbeats 4000000 in
theorem st_copy (E : jD) (ad ma : Nat → Nat) (C M : va_W) (hRel : Rel E ad ma C M) (z1 : Int) (z2 : Int) (z3 : Int) (z4 : Int) (z5 : Int) (hz1 : jr z1) (hz2 : jr z2) (hz3 : jr z3) (hz4 : jr z4) (hz5 : jr z5) : StepI E ad ma Y_X6_copy Y_X7_copy [.ref (ad 0), .int (iI z1), .int (iI z2), .int (iI z3), .int (iI z4), .int (iI z5)] [.ref (ma 0), .int (iI z1), .int (iI z2), .int (iI z3), .int (iI z4), .int (iI z5)] C M := by
  refine Rel_elim (P := fun C M => StepI E ad ma Y_X6_copy Y_X7_copy [.ref (ad 0), .int (iI z1), .int (iI z2), .int (iI z3), .int (iI z4), .int (iI z5)] [.ref (ma 0), .int (iI z1), .int (iI z2), .int (iI z3), .int (iI z4), .int (iI z5)] C M) hRel ?_
  intro ra ia fnd ask fm nr rr wd N nc f sh mm w pl H hp hq kw kn kf nd pa de sz fi mt md mi tw tb tn tf tsh tmm tws tpl thr ask2 rw0 it md0 mm2 ua uw kp kni kwi pi pd ab pal hA hR hX hK hF hask hmm
  have hn := iX_n hX
  by_cases hb : z1 < 0 ∨ 4 ≤ z1 ∨ z3 < 0 ∨ 4 ≤ z3
  · refine ⟨iI (-1), (fun N0 => N0 = CW E ad ra ia fnd ask fm nr rr (wd : Int) ((nB N wd : Nat) : Int) nc f sh mm w pl ((List.length H : Nat) : Int) hp hq kw kn kf (nd : Int) pa de sz fi mt md mi tw tb tn tf tsh tmm tws tpl), (fun N0 => N0 = MW E ma 0 ask2 fnd fm nr rw0 (N : Int) (wd : Int) it md0 mm2 ua uw ((List.length H : Nat) : Int) kp kni kwi pi pd (nd : Int) ab pal), ?_, fun N0 h => by subst h; rfl, ?_, fun N0 h => by subst h; rfl, ?_⟩
    · refine (MC.frame (M := CW E ad ra ia fnd ask fm nr rr (wd : Int) ((nB N wd : Nat) : Int) nc f sh mm w pl ((List.length H : Nat) : Int) hp hq kw kn kf (nd : Int) pa de sz fi mt md mi tw tb tn tf tsh tmm tws tpl) [0] (c_X6_copy_bad E (ad 0) (ad 1) (ad 17) (ad 24) (ad 10) (ad 27) (ad 42) fnd ask z1 z2 z3 z4 z5 hz1 hz3 hb) rfl rfl (by rintro _ _ ⟨rfl, rfl⟩; rfl)).mono ?_
      rintro _ _ ⟨_, ⟨rfl, rfl⟩, rfl⟩
      exact ⟨rfl, rfl⟩
    · refine (MC.frame (M := MW E ma thr ask2 fnd fm nr rw0 (N : Int) (wd : Int) it md0 mm2 ua uw ((List.length H : Nat) : Int) kp kni kwi pi pd (nd : Int) ab pal) [0] (c_X7_copy_bad E fnd ask2 (wd : Int) (N : Int) mm2 ((List.length H : Nat) : Int) (nd : Int) (ma 0) (ma 1) (ma 2) (ma 3) (ma 4) (ma 5) (ma 6) (ma 7) (ma 8) (ma 9) (ma 10) (ma 11) (ma 12) thr pd pal z1 z2 z3 z4 z5 hz1 hz3 hb) rfl rfl (by rintro _ _ ⟨rfl, rfl⟩; rfl)).mono ?_
      rintro _ _ ⟨_, ⟨rfl, rfl⟩, rfl⟩
      exact ⟨rfl, rfl⟩
    · rintro _ _ rfl rfl
      exact ⟨ra, ia, fnd, ask, fm, nr, rr, wd, N, nc, f, sh, mm, w, pl, H, hp, hq, kw, kn, kf, nd, pa, de, sz, fi, mt, md, mi, tw, tb, tn, tf, tsh, tmm, tws, tpl, 0, ask2, rw0, it, md0, mm2, ua, uw, kp, kni, kwi, pi, pd, ab, pal, rfl, rfl, hA, hR, hX, hK, hF, hask, hmm⟩
  · obtain ⟨r, rfl⟩ : ∃ q : Nat, z1 = (q : Int) := ⟨z1.toNat, by omega⟩
    obtain ⟨t, rfl⟩ : ∃ q : Nat, z3 = (q : Int) := ⟨z3.toNat, by omega⟩
    have hr4 : r < 4 := by omega
    obtain ⟨hN, hrw⟩ := hR r hr4
    have hra := hA.1 r hr4
    have ht4 : t < 4 := by omega
    obtain ⟨hN2, hrw2⟩ := hR t ht4
    have hta := hA.1 t ht4
    by_cases hne : r = t
    · subst hne
      by_cases hok : 0 ≤ nr r ∧ 0 ≤ nr r ∧ 0 ≤ z2 ∧ 0 ≤ z5 ∧ z5 ≤ nr r - z2 ∧ 0 ≤ z4 ∧ z5 ≤ nr r - z4
      · obtain ⟨i, rfl⟩ : ∃ q : Nat, z2 = (q : Int) := ⟨z2.toNat, by omega⟩
        obtain ⟨j, rfl⟩ : ∃ q : Nat, z4 = (q : Int) := ⟨z4.toNat, by omega⟩
        obtain ⟨m, rfl⟩ : ∃ q : Nat, z5 = (q : Int) := ⟨z5.toNat, by omega⟩
        refine ⟨iI ((m : Int)), (fun N0 => N0 = CW E ad ra ia fnd ask fm nr (setA rr r (va_cpy (rr r) (rr r) i j m)) (wd : Int) ((nB N wd : Nat) : Int) nc f sh mm w pl ((List.length H : Nat) : Int) hp hq kw kn kf (nd : Int) pa de sz fi mt md mi tw tb tn tf tsh tmm tws tpl), (fun N0 => N0 = MW E ma 0 ask2 fnd fm nr (cpF rw0 rw0 (48 * r + i) (48 * r + j) m) (N : Int) (wd : Int) it md0 mm2 ua uw ((List.length H : Nat) : Int) kp kni kwi pi pd (nd : Int) ab pal), ?_, fun N0 h => by subst h; rfl, ?_, fun N0 h => by subst h; rfl, ?_⟩
        · refine (MC.frame (M := CW E ad ra ia fnd ask fm nr rr (wd : Int) ((nB N wd : Nat) : Int) nc f sh mm w pl ((List.length H : Nat) : Int) hp hq kw kn kf (nd : Int) pa de sz fi mt md mi tw tb tn tf tsh tmm tws tpl) [0, 1, (2 + 2 * r), (3 + 2 * r)] (c_X6_copy_oks E (ad 0) (ad 1) (ad 17) (ad 24) (ad 10) (ad 27) (ad 42) (ad (2 + 2 * r)) (ad (3 + 2 * r)) fnd ask (nr r) ra (rr r) r r i j m (by omega) hra hN hr4 hra (by omega) (by omega)) (by rcases lt4 hr4 with rfl | rfl | rfl | rfl <;> rfl) (by rcases lt4 hr4 with rfl | rfl | rfl | rfl <;> rfl) (by rintro _ _ ⟨rfl, rfl⟩; rfl)).mono ?_
          rintro _ _ ⟨_, ⟨rfl, rfl⟩, rfl⟩
          exact ⟨rfl, (by rcases lt4 hr4 with rfl | rfl | rfl | rfl <;> rfl)⟩
        · refine (MC.frame (M := MW E ma thr ask2 fnd fm nr rw0 (N : Int) (wd : Int) it md0 mm2 ua uw ((List.length H : Nat) : Int) kp kni kwi pi pd (nd : Int) ab pal) [0, 2, 3] (c_X7_copy_ok E fnd ask2 (wd : Int) (N : Int) mm2 ((List.length H : Nat) : Int) (nd : Int) (ma 0) (ma 1) (ma 2) (ma 3) (ma 4) (ma 5) (ma 6) (ma 7) (ma 8) (ma 9) (ma 10) (ma 11) (ma 12) thr pd pal nr rw0 r r i j m (by omega) hN hr4 hN (by omega) (by omega)) rfl rfl (by rintro _ _ ⟨rfl, rfl⟩; rfl)).mono ?_
          rintro _ _ ⟨_, ⟨rfl, rfl⟩, rfl⟩
          exact ⟨rfl, rfl⟩
        · rintro _ _ rfl rfl
          exact ⟨ra, ia, fnd, ask, fm, nr, (setA rr r (va_cpy (rr r) (rr r) i j m)), wd, N, nc, f, sh, mm, w, pl, H, hp, hq, kw, kn, kf, nd, pa, de, sz, fi, mt, md, mi, tw, tb, tn, tf, tsh, tmm, tws, tpl, 0, ask2, (cpF rw0 rw0 (48 * r + i) (48 * r + j) m), it, md0, mm2, ua, uw, kp, kni, kwi, pi, pd, ab, pal, rfl, rfl, hA, (fun q hq => by
            have hq1 := (hR q hq).1
            refine ⟨hq1, fun x hx => ?_⟩
            unfold setA
            by_cases e : q = r
            · subst e
              rw [if_pos rfl]
              unfold va_cpy cpF
              by_cases ej : j ≤ x ∧ x < j + m
              · rw [if_pos ej, if_pos (by omega), hrw _ (by omega)]
                exact congrArg rw0 (by omega)
              · rw [if_neg ej, if_neg (by omega)]
                exact (hR q hq).2 x hx
            · rw [if_neg e]
              unfold cpF
              rw [if_neg (by omega)]
              exact (hR q hq).2 x hx), hX, hK, hF, hask, hmm⟩
      · obtain ⟨c, hc⟩ : ∃ c : Int, ((nr r < 0 ∨ nr r < 0) ∧ c = 1) ∨ (0 ≤ nr r ∧ 0 ≤ nr r ∧ (z2 < 0 ∨ z5 < 0 ∨ nr r - z2 < z5 ∨ z4 < 0 ∨ nr r - z4 < z5) ∧ c = 2) := by
          by_cases h0 : nr r < 0 ∨ nr r < 0
          · exact ⟨1, Or.inl ⟨h0, rfl⟩⟩
          · exact ⟨2, Or.inr ⟨by omega, by omega, by omega, rfl⟩⟩
        refine ⟨iI (rz c), (fun N0 => N0 = CW E ad ra ia (rf c fnd) ask (rm c fm) nr rr (wd : Int) ((nB N wd : Nat) : Int) nc f sh mm w pl ((List.length H : Nat) : Int) hp hq kw kn kf (nd : Int) pa de sz fi mt md mi tw tb tn tf tsh tmm tws tpl), (fun N0 => N0 = MW E ma 0 ask2 (rf c fnd) (rm c fm) nr rw0 (N : Int) (wd : Int) it md0 mm2 ua uw ((List.length H : Nat) : Int) kp kni kwi pi pd (nd : Int) ab pal), ?_, fun N0 h => by subst h; rfl, ?_, fun N0 h => by subst h; rfl, ?_⟩
        · refine (MC.frame (M := CW E ad ra ia fnd ask fm nr rr (wd : Int) ((nB N wd : Nat) : Int) nc f sh mm w pl ((List.length H : Nat) : Int) hp hq kw kn kf (nd : Int) pa de sz fi mt md mi tw tb tn tf tsh tmm tws tpl) [0, 42, 1, (2 + 2 * r)] (c_X6_copy_nos E (ad 0) (ad 1) (ad 17) (ad 24) (ad 10) (ad 27) (ad 42) (ad (2 + 2 * r)) (ad (3 + 2 * r)) fnd ask (nr r) fm ra r r z2 z4 z5 c (by omega) hra hN hr4 hra hz2 hz4 hz5 hc) (by rcases lt4 hr4 with rfl | rfl | rfl | rfl <;> rfl) (by rcases lt4 hr4 with rfl | rfl | rfl | rfl <;> rfl) (by rintro _ _ ⟨rfl, rfl⟩; rfl)).mono ?_
          rintro _ _ ⟨_, ⟨rfl, rfl⟩, rfl⟩
          exact ⟨rfl, (by rcases lt4 hr4 with rfl | rfl | rfl | rfl <;> rfl)⟩
        · refine (MC.frame (M := MW E ma thr ask2 fnd fm nr rw0 (N : Int) (wd : Int) it md0 mm2 ua uw ((List.length H : Nat) : Int) kp kni kwi pi pd (nd : Int) ab pal) [0, 1, 3] (c_X7_copy_no E fnd ask2 (wd : Int) (N : Int) mm2 ((List.length H : Nat) : Int) (nd : Int) fm (ma 0) (ma 1) (ma 2) (ma 3) (ma 4) (ma 5) (ma 6) (ma 7) (ma 8) (ma 9) (ma 10) (ma 11) (ma 12) thr pd pal nr r r z2 z4 z5 c (by omega) hN hr4 hN hz2 hz4 hz5 hc) rfl rfl (by rintro _ _ ⟨rfl, rfl⟩; rfl)).mono ?_
          rintro _ _ ⟨_, ⟨rfl, rfl⟩, rfl⟩
          exact ⟨rfl, rfl⟩
        · rintro _ _ rfl rfl
          exact ⟨ra, ia, (rf c fnd), ask, (rm c fm), nr, rr, wd, N, nc, f, sh, mm, w, pl, H, hp, hq, kw, kn, kf, nd, pa, de, sz, fi, mt, md, mi, tw, tb, tn, tf, tsh, tmm, tws, tpl, 0, ask2, rw0, it, md0, mm2, ua, uw, kp, kni, kwi, pi, pd, ab, pal, rfl, rfl, hA, hR, hX, hK, hF, hask, hmm⟩
    · by_cases hok : 0 ≤ nr r ∧ 0 ≤ nr t ∧ 0 ≤ z2 ∧ 0 ≤ z5 ∧ z5 ≤ nr r - z2 ∧ 0 ≤ z4 ∧ z5 ≤ nr t - z4
      · obtain ⟨i, rfl⟩ : ∃ q : Nat, z2 = (q : Int) := ⟨z2.toNat, by omega⟩
        obtain ⟨j, rfl⟩ : ∃ q : Nat, z4 = (q : Int) := ⟨z4.toNat, by omega⟩
        obtain ⟨m, rfl⟩ : ∃ q : Nat, z5 = (q : Int) := ⟨z5.toNat, by omega⟩
        refine ⟨iI ((m : Int)), (fun N0 => N0 = CW E ad ra ia fnd ask fm nr (setA rr t (va_cpy (rr r) (rr t) i j m)) (wd : Int) ((nB N wd : Nat) : Int) nc f sh mm w pl ((List.length H : Nat) : Int) hp hq kw kn kf (nd : Int) pa de sz fi mt md mi tw tb tn tf tsh tmm tws tpl), (fun N0 => N0 = MW E ma 0 ask2 fnd fm nr (cpF rw0 rw0 (48 * r + i) (48 * t + j) m) (N : Int) (wd : Int) it md0 mm2 ua uw ((List.length H : Nat) : Int) kp kni kwi pi pd (nd : Int) ab pal), ?_, fun N0 h => by subst h; rfl, ?_, fun N0 h => by subst h; rfl, ?_⟩
        · refine (MC.frame (M := CW E ad ra ia fnd ask fm nr rr (wd : Int) ((nB N wd : Nat) : Int) nc f sh mm w pl ((List.length H : Nat) : Int) hp hq kw kn kf (nd : Int) pa de sz fi mt md mi tw tb tn tf tsh tmm tws tpl) [0, 1, (2 + 2 * r), (3 + 2 * r), (2 + 2 * t), (3 + 2 * t)] (c_X6_copy_okd E (ad 0) (ad 1) (ad 17) (ad 24) (ad 10) (ad 27) (ad 42) (ad (2 + 2 * r)) (ad (3 + 2 * r)) (ad (2 + 2 * t)) (ad (3 + 2 * t)) fnd ask (nr r) (nr t) ra (rr r) (rr t) r t i j m (by omega) hra hN (by omega) hta hN2 (by omega) (by omega)) (by rcases lt4 hr4 with rfl | rfl | rfl | rfl <;> rcases lt4 ht4 with rfl | rfl | rfl | rfl <;> first | exact absurd rfl hne | rfl) (by rcases lt4 hr4 with rfl | rfl | rfl | rfl <;> rcases lt4 ht4 with rfl | rfl | rfl | rfl <;> first | exact absurd rfl hne | rfl) (by rintro _ _ ⟨rfl, rfl⟩; rfl)).mono ?_
          rintro _ _ ⟨_, ⟨rfl, rfl⟩, rfl⟩
          exact ⟨rfl, (by rcases lt4 hr4 with rfl | rfl | rfl | rfl <;> rcases lt4 ht4 with rfl | rfl | rfl | rfl <;> first | exact absurd rfl hne | rfl)⟩
        · refine (MC.frame (M := MW E ma thr ask2 fnd fm nr rw0 (N : Int) (wd : Int) it md0 mm2 ua uw ((List.length H : Nat) : Int) kp kni kwi pi pd (nd : Int) ab pal) [0, 2, 3] (c_X7_copy_ok E fnd ask2 (wd : Int) (N : Int) mm2 ((List.length H : Nat) : Int) (nd : Int) (ma 0) (ma 1) (ma 2) (ma 3) (ma 4) (ma 5) (ma 6) (ma 7) (ma 8) (ma 9) (ma 10) (ma 11) (ma 12) thr pd pal nr rw0 r t i j m (by omega) hN (by omega) hN2 (by omega) (by omega)) rfl rfl (by rintro _ _ ⟨rfl, rfl⟩; rfl)).mono ?_
          rintro _ _ ⟨_, ⟨rfl, rfl⟩, rfl⟩
          exact ⟨rfl, rfl⟩
        · rintro _ _ rfl rfl
          exact ⟨ra, ia, fnd, ask, fm, nr, (setA rr t (va_cpy (rr r) (rr t) i j m)), wd, N, nc, f, sh, mm, w, pl, H, hp, hq, kw, kn, kf, nd, pa, de, sz, fi, mt, md, mi, tw, tb, tn, tf, tsh, tmm, tws, tpl, 0, ask2, (cpF rw0 rw0 (48 * r + i) (48 * t + j) m), it, md0, mm2, ua, uw, kp, kni, kwi, pi, pd, ab, pal, rfl, rfl, hA, (fun q hq => by
            have hq1 := (hR q hq).1
            refine ⟨hq1, fun x hx => ?_⟩
            unfold setA
            by_cases e : q = t
            · subst e
              rw [if_pos rfl]
              unfold va_cpy cpF
              by_cases ej : j ≤ x ∧ x < j + m
              · rw [if_pos ej, if_pos (by omega), hrw _ (by omega)]
                exact congrArg rw0 (by omega)
              · rw [if_neg ej, if_neg (by omega)]
                exact (hR q hq).2 x hx
            · rw [if_neg e]
              unfold cpF
              rw [if_neg (by omega)]
              exact (hR q hq).2 x hx), hX, hK, hF, hask, hmm⟩
      · obtain ⟨c, hc⟩ : ∃ c : Int, ((nr r < 0 ∨ nr t < 0) ∧ c = 1) ∨ (0 ≤ nr r ∧ 0 ≤ nr t ∧ (z2 < 0 ∨ z5 < 0 ∨ nr r - z2 < z5 ∨ z4 < 0 ∨ nr t - z4 < z5) ∧ c = 2) := by
          by_cases h0 : nr r < 0 ∨ nr t < 0
          · exact ⟨1, Or.inl ⟨h0, rfl⟩⟩
          · exact ⟨2, Or.inr ⟨by omega, by omega, by omega, rfl⟩⟩
        refine ⟨iI (rz c), (fun N0 => N0 = CW E ad ra ia (rf c fnd) ask (rm c fm) nr rr (wd : Int) ((nB N wd : Nat) : Int) nc f sh mm w pl ((List.length H : Nat) : Int) hp hq kw kn kf (nd : Int) pa de sz fi mt md mi tw tb tn tf tsh tmm tws tpl), (fun N0 => N0 = MW E ma 0 ask2 (rf c fnd) (rm c fm) nr rw0 (N : Int) (wd : Int) it md0 mm2 ua uw ((List.length H : Nat) : Int) kp kni kwi pi pd (nd : Int) ab pal), ?_, fun N0 h => by subst h; rfl, ?_, fun N0 h => by subst h; rfl, ?_⟩
        · refine (MC.frame (M := CW E ad ra ia fnd ask fm nr rr (wd : Int) ((nB N wd : Nat) : Int) nc f sh mm w pl ((List.length H : Nat) : Int) hp hq kw kn kf (nd : Int) pa de sz fi mt md mi tw tb tn tf tsh tmm tws tpl) [0, 42, 1, (2 + 2 * r), (2 + 2 * t)] (c_X6_copy_nod E (ad 0) (ad 1) (ad 17) (ad 24) (ad 10) (ad 27) (ad 42) (ad (2 + 2 * r)) (ad (3 + 2 * r)) (ad (2 + 2 * t)) (ad (3 + 2 * t)) fnd ask (nr r) (nr t) fm ra r t z2 z4 z5 c (by omega) hra hN (by omega) hta hN2 hz2 hz4 hz5 hc) (by rcases lt4 hr4 with rfl | rfl | rfl | rfl <;> rcases lt4 ht4 with rfl | rfl | rfl | rfl <;> first | exact absurd rfl hne | rfl) (by rcases lt4 hr4 with rfl | rfl | rfl | rfl <;> rcases lt4 ht4 with rfl | rfl | rfl | rfl <;> first | exact absurd rfl hne | rfl) (by rintro _ _ ⟨rfl, rfl⟩; rfl)).mono ?_
          rintro _ _ ⟨_, ⟨rfl, rfl⟩, rfl⟩
          exact ⟨rfl, (by rcases lt4 hr4 with rfl | rfl | rfl | rfl <;> rcases lt4 ht4 with rfl | rfl | rfl | rfl <;> first | exact absurd rfl hne | rfl)⟩
        · refine (MC.frame (M := MW E ma thr ask2 fnd fm nr rw0 (N : Int) (wd : Int) it md0 mm2 ua uw ((List.length H : Nat) : Int) kp kni kwi pi pd (nd : Int) ab pal) [0, 1, 3] (c_X7_copy_no E fnd ask2 (wd : Int) (N : Int) mm2 ((List.length H : Nat) : Int) (nd : Int) fm (ma 0) (ma 1) (ma 2) (ma 3) (ma 4) (ma 5) (ma 6) (ma 7) (ma 8) (ma 9) (ma 10) (ma 11) (ma 12) thr pd pal nr r t z2 z4 z5 c (by omega) hN (by omega) hN2 hz2 hz4 hz5 hc) rfl rfl (by rintro _ _ ⟨rfl, rfl⟩; rfl)).mono ?_
          rintro _ _ ⟨_, ⟨rfl, rfl⟩, rfl⟩
          exact ⟨rfl, rfl⟩
        · rintro _ _ rfl rfl
          exact ⟨ra, ia, (rf c fnd), ask, (rm c fm), nr, rr, wd, N, nc, f, sh, mm, w, pl, H, hp, hq, kw, kn, kf, nd, pa, de, sz, fi, mt, md, mi, tw, tb, tn, tf, tsh, tmm, tws, tpl, 0, ask2, rw0, it, md0, mm2, ua, uw, kp, kni, kwi, pi, pd, ab, pal, rfl, rfl, hA, hR, hX, hK, hF, hask, hmm⟩
