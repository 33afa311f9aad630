set_option maxRecDepth 100000 in
set_option maxHeartbeats 4000000 in
theorem st_least (E : jD) (ad ma : Nat → Nat) (C M : va_W) (hRel : Rel E ad ma C M) (z1 : Int) (z2 : Int) (hz1 : jr z1) (hz2 : jr z2) : StepI E ad ma Y_X6_least Y_X7_least [.ref (ad 0), .int (iI z1), .int (iI z2)] [.ref (ma 0), .int (iI z1), .int (iI z2)] C M := by
  refine Rel_elim (P := fun C M => StepI E ad ma Y_X6_least Y_X7_least [.ref (ad 0), .int (iI z1), .int (iI z2)] [.ref (ma 0), .int (iI z1), .int (iI z2)] C M) hRel ?_
  intro ra ia fnd ask fm nr rr wd N nc f sh mm w pl H hp hq kw kn kf nd pa de sz fi mt md mi tw tb tn tf tsh tmm tws tpl thr ask2 rw0 it md0 mm2 ua uw kp kni kwi pi pd ab pal hA hR hX hK hF hask hmm
  have hn := iX_n hX
  by_cases hok : 1 ≤ N ∧ 0 ≤ z1 ∧ z1 ≤ z2 ∧ z2 < N
  · obtain ⟨i, rfl⟩ : ∃ q : Nat, z1 = (q : Int) := ⟨z1.toNat, by omega⟩
    obtain ⟨j, rfl⟩ : ∃ q : Nat, z2 = (q : Int) := ⟨z2.toNat, by omega⟩
    have hij : i ≤ j := by omega
    have hj : j < N := by omega
    obtain ⟨rfl, hfk, hsh, hset, hos, hh1, hh2, hch⟩ := iX_y hX (by omega)
    have hg := tI_cg hfk
    have e := lsF_cg hg i (j - i) (by omega)
    have hlin := lsF_in (tI it) i (j - i)
    refine ⟨iI (((lsF (tI f) i (j - i)) : Nat)), (fun N0 => N0 = CW E ad ra ia fnd (f (lsF (tI f) i (j - i))).toInt fm nr rr (wd : Int) ((nB N wd : Nat) : Int) (N : Int) f sh mm w pl ((List.length H : Nat) : Int) hp hq kw kn kf (nd : Int) pa de sz fi mt md mi tw tb tn tf tsh tmm tws tpl), (fun N0 => N0 = MW E ma 0 (it (lsF (tI it) i (j - i))).toInt fnd fm nr rw0 (N : Int) (wd : Int) it md0 mm2 ua uw ((List.length H : Nat) : Int) kp kni kwi pi pd (nd : Int) ab pal), ?_, fun N0 h => by subst h; rfl, ?_, fun N0 h => by subst h; rfl, ?_⟩
    · refine (MC.frame (M := CW E ad ra ia fnd ask fm nr rr (wd : Int) ((nB N wd : Nat) : Int) (N : Int) f sh mm w pl ((List.length H : Nat) : Int) hp hq kw kn kf (nd : Int) pa de sz fi mt md mi tw tb tn tf tsh tmm tws tpl) [0, 42, 17, 18, 19] (c_X6_least_ok E (ad 0) (ad 1) (ad 17) (ad 24) (ad 10) (ad 27) (ad 42) (ad 18) (ad 19) (ad 20) (ad 21) (ad 23) fnd ask (wd : Int) ((nB N wd : Nat) : Int) fm f N i j (by omega) hij hj) rfl rfl (by rintro _ _ ⟨rfl, rfl⟩; rfl)).mono ?_
      rintro _ _ ⟨_, ⟨rfl, rfl⟩, rfl⟩
      exact ⟨rfl, rfl⟩
    · refine (MC.frame (M := MW E ma thr ask2 fnd fm nr rw0 (N : Int) (wd : Int) it md0 mm2 ua uw ((List.length H : Nat) : Int) kp kni kwi pi pd (nd : Int) ab pal) [0, 4] (c_X7_least_ok E fnd ask2 (wd : Int) mm2 ((List.length H : Nat) : Int) (nd : Int) (ma 0) (ma 1) (ma 2) (ma 3) (ma 4) (ma 5) (ma 6) (ma 7) (ma 8) (ma 9) (ma 10) (ma 11) (ma 12) thr pd pal it N i j (by omega) hij hj) rfl rfl (by rintro _ _ ⟨rfl, rfl⟩; rfl)).mono ?_
      rintro _ _ ⟨_, ⟨rfl, rfl⟩, rfl⟩
      exact ⟨congrArg (fun z => some (Value.int (iI z))) (by rw [e]), rfl⟩
    · rintro _ _ rfl rfl
      exact ⟨ra, ia, fnd, (f (lsF (tI f) i (j - i))).toInt, fm, nr, rr, wd, N, (N : Int), f, sh, mm, w, pl, H, hp, hq, kw, kn, kf, nd, pa, de, sz, fi, mt, md, mi, tw, tb, tn, tf, tsh, tmm, tws, tpl, 0, (it (lsF (tI it) i (j - i))).toInt, rw0, it, md0, mm2, ua, uw, kp, kni, kwi, pi, pd, ab, pal, rfl, rfl, hA, hR, hX, hK, hF, (by rw [e]; exact hg _ (by omega)), hmm⟩
  · obtain ⟨c, hc⟩ : ∃ c : Int, (N = 0 ∧ c = -2) ∨ (1 ≤ N ∧ (z1 < 0 ∨ (N : Int) ≤ z1 ∨ z2 < z1 ∨ (N : Int) ≤ z2) ∧ c = 2) := by
      by_cases h0 : N = 0
      · exact ⟨-2, Or.inl ⟨h0, rfl⟩⟩
      · exact ⟨2, Or.inr ⟨by omega, by omega, rfl⟩⟩
    refine ⟨iI (rz c), (fun N0 => N0 = CW E ad ra ia (rf c fnd) ask (rm c fm) nr rr (wd : Int) ((nB N wd : Nat) : Int) nc f sh mm w pl ((List.length H : Nat) : Int) hp hq kw kn kf (nd : Int) pa de sz fi mt md mi tw tb tn tf tsh tmm tws tpl), (fun N0 => N0 = MW E ma 0 ask2 (rf c fnd) (rm c fm) nr rw0 (N : Int) (wd : Int) it md0 mm2 ua uw ((List.length H : Nat) : Int) kp kni kwi pi pd (nd : Int) ab pal), ?_, fun N0 h => by subst h; rfl, ?_, fun N0 h => by subst h; rfl, ?_⟩
    · refine (MC.frame (M := CW E ad ra ia fnd ask fm nr rr (wd : Int) ((nB N wd : Nat) : Int) nc f sh mm w pl ((List.length H : Nat) : Int) hp hq kw kn kf (nd : Int) pa de sz fi mt md mi tw tb tn tf tsh tmm tws tpl) [0, 42, 17, 18] (c_X6_least_no E (ad 0) (ad 1) (ad 17) (ad 24) (ad 10) (ad 27) (ad 42) (ad 18) (ad 19) (ad 20) (ad 21) (ad 23) fnd ask (wd : Int) ((nB N wd : Nat) : Int) nc fm z1 z2 c (by omega) hz1 hz2 (by omega)) rfl rfl (by rintro _ _ ⟨rfl, rfl⟩; rfl)).mono ?_
      rintro _ _ ⟨_, ⟨rfl, rfl⟩, rfl⟩
      exact ⟨rfl, rfl⟩
    · refine (MC.frame (M := MW E ma thr ask2 fnd fm nr rw0 (N : Int) (wd : Int) it md0 mm2 ua uw ((List.length H : Nat) : Int) kp kni kwi pi pd (nd : Int) ab pal) [0, 1] (c_X7_least_no E fnd ask2 (wd : Int) (N : Int) mm2 ((List.length H : Nat) : Int) (nd : Int) fm (ma 0) (ma 1) (ma 2) (ma 3) (ma 4) (ma 5) (ma 6) (ma 7) (ma 8) (ma 9) (ma 10) (ma 11) (ma 12) thr pd pal z1 z2 c (by omega) hz1 hz2 (by omega)) rfl rfl (by rintro _ _ ⟨rfl, rfl⟩; rfl)).mono ?_
      rintro _ _ ⟨_, ⟨rfl, rfl⟩, rfl⟩
      exact ⟨rfl, rfl⟩
    · rintro _ _ rfl rfl
      exact ⟨ra, ia, (rf c fnd), ask, (rm c fm), nr, rr, wd, N, nc, f, sh, mm, w, pl, H, hp, hq, kw, kn, kf, nd, pa, de, sz, fi, mt, md, mi, tw, tb, tn, tf, tsh, tmm, tws, tpl, 0, ask2, rw0, it, md0, mm2, ua, uw, kp, kni, kwi, pi, pd, ab, pal, rfl, rfl, hA, hR, hX, hK, hF, hask, hmm⟩

set_option maxRecDepth 100000 in
set_option maxHeartbeats 4000000 in
theorem st_kth (E : jD) (ad ma : Nat → Nat) (C M : va_W) (hRel : Rel E ad ma C M) (z1 : Int) (z2 : Int) (z3 : Int) (hz1 : jr z1) (hz2 : jr z2) (hz3 : jr z3) : StepI E ad ma Y_X6_kth Y_X7_kth [.ref (ad 0), .int (iI z1), .int (iI z2), .int (iI z3)] [.ref (ma 0), .int (iI z1), .int (iI z2), .int (iI z3)] C M := by
  refine Rel_elim (P := fun C M => StepI E ad ma Y_X6_kth Y_X7_kth [.ref (ad 0), .int (iI z1), .int (iI z2), .int (iI z3)] [.ref (ma 0), .int (iI z1), .int (iI z2), .int (iI z3)] C M) hRel ?_
  intro ra ia fnd ask fm nr rr wd N nc f sh mm w pl H hp hq kw kn kf nd pa de sz fi mt md mi tw tb tn tf tsh tmm tws tpl thr ask2 rw0 it md0 mm2 ua uw kp kni kwi pi pd ab pal hA hR hX hK hF hask hmm
  have hn := iX_n hX
  by_cases hok : 1 ≤ N ∧ 0 ≤ z1 ∧ z1 ≤ z2 ∧ z2 < N
  · obtain ⟨i, rfl⟩ : ∃ q : Nat, z1 = (q : Int) := ⟨z1.toNat, by omega⟩
    obtain ⟨j, rfl⟩ : ∃ q : Nat, z2 = (q : Int) := ⟨z2.toNat, by omega⟩
    have hij : i ≤ j := by omega
    have hj : j < N := by omega
    by_cases hk : 0 ≤ z3 ∧ z3 ≤ (j : Int) - i
    · obtain ⟨rfl, hfk, hsh, hset, hos, hh1, hh2, hch⟩ := iX_y hX (by omega)
      have hg := tI_cg hfk
      have e := ktF_cg hg i (j + 1 - i) z3 (by omega) (j - i) i (by omega)
      have hlin := ktF_in (tI it) i (j + 1 - i) z3 (j - i) i
      refine ⟨iI (((ktF (tI f) i (j + 1 - i) z3 (j - i) i) : Nat)), (fun N0 => N0 = CW E ad ra ia fnd (f (ktF (tI f) i (j + 1 - i) z3 (j - i) i)).toInt fm nr rr (wd : Int) ((nB N wd : Nat) : Int) (N : Int) f sh mm w pl ((List.length H : Nat) : Int) hp hq kw kn kf (nd : Int) pa de sz fi mt md mi tw tb tn tf tsh tmm tws tpl), (fun N0 => N0 = MW E ma 0 (it (ktF (tI it) i (j + 1 - i) z3 (j - i) i)).toInt fnd fm nr rw0 (N : Int) (wd : Int) it md0 mm2 ua uw ((List.length H : Nat) : Int) kp kni kwi pi pd (nd : Int) ab pal), ?_, fun N0 h => by subst h; rfl, ?_, fun N0 h => by subst h; rfl, ?_⟩
      · refine (MC.frame (M := CW E ad ra ia fnd ask fm nr rr (wd : Int) ((nB N wd : Nat) : Int) (N : Int) f sh mm w pl ((List.length H : Nat) : Int) hp hq kw kn kf (nd : Int) pa de sz fi mt md mi tw tb tn tf tsh tmm tws tpl) [0, 42, 17, 18, 19] (c_X6_kth_ok E (ad 0) (ad 1) (ad 17) (ad 24) (ad 10) (ad 27) (ad 42) (ad 18) (ad 19) (ad 20) (ad 21) (ad 23) fnd ask (wd : Int) ((nB N wd : Nat) : Int) fm f N i j z3 (by omega) hij hj hk) rfl rfl (by rintro _ _ ⟨rfl, rfl⟩; rfl)).mono ?_
        rintro _ _ ⟨_, ⟨rfl, rfl⟩, rfl⟩
        exact ⟨rfl, rfl⟩
      · refine (MC.frame (M := MW E ma thr ask2 fnd fm nr rw0 (N : Int) (wd : Int) it md0 mm2 ua uw ((List.length H : Nat) : Int) kp kni kwi pi pd (nd : Int) ab pal) [0, 4] (c_X7_kth_ok E fnd ask2 (wd : Int) mm2 ((List.length H : Nat) : Int) (nd : Int) (ma 0) (ma 1) (ma 2) (ma 3) (ma 4) (ma 5) (ma 6) (ma 7) (ma 8) (ma 9) (ma 10) (ma 11) (ma 12) thr pd pal it N i j z3 (by omega) hij hj hk (kt_hx (tI it) hij hk)) rfl rfl (by rintro _ _ ⟨rfl, rfl⟩; rfl)).mono ?_
        rintro _ _ ⟨_, ⟨rfl, rfl⟩, rfl⟩
        exact ⟨congrArg (fun z => some (Value.int (iI z))) (by rw [e]), rfl⟩
      · rintro _ _ rfl rfl
        exact ⟨ra, ia, fnd, (f (ktF (tI f) i (j + 1 - i) z3 (j - i) i)).toInt, fm, nr, rr, wd, N, (N : Int), f, sh, mm, w, pl, H, hp, hq, kw, kn, kf, nd, pa, de, sz, fi, mt, md, mi, tw, tb, tn, tf, tsh, tmm, tws, tpl, 0, (it (ktF (tI it) i (j + 1 - i) z3 (j - i) i)).toInt, rw0, it, md0, mm2, ua, uw, kp, kni, kwi, pi, pd, ab, pal, rfl, rfl, hA, hR, hX, hK, hF, (by rw [e]; exact hg _ (by omega)), hmm⟩
    · have hc : (z3 < 0 ∨ (j : Int) - i < z3) ∧ (2 : Int) = 2 := ⟨by omega, rfl⟩
      refine ⟨iI (rz 2), (fun N0 => N0 = CW E ad ra ia (rf 2 fnd) ask (rm 2 fm) nr rr (wd : Int) ((nB N wd : Nat) : Int) nc f sh mm w pl ((List.length H : Nat) : Int) hp hq kw kn kf (nd : Int) pa de sz fi mt md mi tw tb tn tf tsh tmm tws tpl), (fun N0 => N0 = MW E ma 0 ask2 (rf 2 fnd) (rm 2 fm) nr rw0 (N : Int) (wd : Int) it md0 mm2 ua uw ((List.length H : Nat) : Int) kp kni kwi pi pd (nd : Int) ab pal), ?_, fun N0 h => by subst h; rfl, ?_, fun N0 h => by subst h; rfl, ?_⟩
      · refine (MC.frame (M := CW E ad ra ia fnd ask fm nr rr (wd : Int) ((nB N wd : Nat) : Int) nc f sh mm w pl ((List.length H : Nat) : Int) hp hq kw kn kf (nd : Int) pa de sz fi mt md mi tw tb tn tf tsh tmm tws tpl) [0, 42, 17, 18] (c_X6_kth_bey E (ad 0) (ad 1) (ad 17) (ad 24) (ad 10) (ad 27) (ad 42) (ad 18) (ad 19) (ad 20) (ad 21) (ad 23) fnd ask (wd : Int) ((nB N wd : Nat) : Int) nc fm i j z3 2 (by omega) hij (by omega) hz3 hc) rfl rfl (by rintro _ _ ⟨rfl, rfl⟩; rfl)).mono ?_
        rintro _ _ ⟨_, ⟨rfl, rfl⟩, rfl⟩
        exact ⟨rfl, rfl⟩
      · refine (MC.frame (M := MW E ma thr ask2 fnd fm nr rw0 (N : Int) (wd : Int) it md0 mm2 ua uw ((List.length H : Nat) : Int) kp kni kwi pi pd (nd : Int) ab pal) [0, 1] (c_X7_kth_bey E fnd ask2 (wd : Int) (N : Int) mm2 ((List.length H : Nat) : Int) (nd : Int) fm (ma 0) (ma 1) (ma 2) (ma 3) (ma 4) (ma 5) (ma 6) (ma 7) (ma 8) (ma 9) (ma 10) (ma 11) (ma 12) thr pd pal i j z3 2 (by omega) hij (by omega) hz3 hc) rfl rfl (by rintro _ _ ⟨rfl, rfl⟩; rfl)).mono ?_
        rintro _ _ ⟨_, ⟨rfl, rfl⟩, rfl⟩
        exact ⟨rfl, rfl⟩
      · rintro _ _ rfl rfl
        exact ⟨ra, ia, (rf 2 fnd), ask, (rm 2 fm), nr, rr, wd, N, nc, f, sh, mm, w, pl, H, hp, hq, kw, kn, kf, nd, pa, de, sz, fi, mt, md, mi, tw, tb, tn, tf, tsh, tmm, tws, tpl, 0, ask2, rw0, it, md0, mm2, ua, uw, kp, kni, kwi, pi, pd, ab, pal, rfl, rfl, hA, hR, hX, hK, hF, hask, hmm⟩
  · obtain ⟨c, hc⟩ : ∃ c : Int, (N = 0 ∧ c = -2) ∨ (1 ≤ N ∧ (z1 < 0 ∨ (N : Int) ≤ z1 ∨ z2 < z1 ∨ (N : Int) ≤ z2) ∧ c = 2) := by
      by_cases h0 : N = 0
      · exact ⟨-2, Or.inl ⟨h0, rfl⟩⟩
      · exact ⟨2, Or.inr ⟨by omega, by omega, rfl⟩⟩
    refine ⟨iI (rz c), (fun N0 => N0 = CW E ad ra ia (rf c fnd) ask (rm c fm) nr rr (wd : Int) ((nB N wd : Nat) : Int) nc f sh mm w pl ((List.length H : Nat) : Int) hp hq kw kn kf (nd : Int) pa de sz fi mt md mi tw tb tn tf tsh tmm tws tpl), (fun N0 => N0 = MW E ma 0 ask2 (rf c fnd) (rm c fm) nr rw0 (N : Int) (wd : Int) it md0 mm2 ua uw ((List.length H : Nat) : Int) kp kni kwi pi pd (nd : Int) ab pal), ?_, fun N0 h => by subst h; rfl, ?_, fun N0 h => by subst h; rfl, ?_⟩
    · refine (MC.frame (M := CW E ad ra ia fnd ask fm nr rr (wd : Int) ((nB N wd : Nat) : Int) nc f sh mm w pl ((List.length H : Nat) : Int) hp hq kw kn kf (nd : Int) pa de sz fi mt md mi tw tb tn tf tsh tmm tws tpl) [0, 42, 17, 18] (c_X6_kth_no E (ad 0) (ad 1) (ad 17) (ad 24) (ad 10) (ad 27) (ad 42) (ad 18) (ad 19) (ad 20) (ad 21) (ad 23) fnd ask (wd : Int) ((nB N wd : Nat) : Int) nc fm z1 z2 z3 c (by omega) hz1 hz2 (by omega)) rfl rfl (by rintro _ _ ⟨rfl, rfl⟩; rfl)).mono ?_
      rintro _ _ ⟨_, ⟨rfl, rfl⟩, rfl⟩
      exact ⟨rfl, rfl⟩
    · refine (MC.frame (M := MW E ma thr ask2 fnd fm nr rw0 (N : Int) (wd : Int) it md0 mm2 ua uw ((List.length H : Nat) : Int) kp kni kwi pi pd (nd : Int) ab pal) [0, 1] (c_X7_kth_no E fnd ask2 (wd : Int) (N : Int) mm2 ((List.length H : Nat) : Int) (nd : Int) fm (ma 0) (ma 1) (ma 2) (ma 3) (ma 4) (ma 5) (ma 6) (ma 7) (ma 8) (ma 9) (ma 10) (ma 11) (ma 12) thr pd pal z1 z2 z3 c (by omega) hz1 hz2 (by omega)) rfl rfl (by rintro _ _ ⟨rfl, rfl⟩; rfl)).mono ?_
      rintro _ _ ⟨_, ⟨rfl, rfl⟩, rfl⟩
      exact ⟨rfl, rfl⟩
    · rintro _ _ rfl rfl
      exact ⟨ra, ia, (rf c fnd), ask, (rm c fm), nr, rr, wd, N, nc, f, sh, mm, w, pl, H, hp, hq, kw, kn, kf, nd, pa, de, sz, fi, mt, md, mi, tw, tb, tn, tf, tsh, tmm, tws, tpl, 0, ask2, rw0, it, md0, mm2, ua, uw, kp, kni, kwi, pi, pd, ab, pal, rfl, rfl, hA, hR, hX, hK, hF, hask, hmm⟩

set_option maxRecDepth 100000 in
set_option maxHeartbeats 4000000 in
theorem st_above (E : jD) (ad ma : Nat → Nat) (C M : va_W) (hRel : Rel E ad ma C M) (z1 : Int) (z2 : Int) (hz1 : jr z1) (hz2 : jr z2) : StepI E ad ma Y_X6_above Y_X7_above [.ref (ad 0), .int (iI z1), .int (iI z2)] [.ref (ma 0), .int (iI z1), .int (iI z2)] C M := by
  refine Rel_elim (P := fun C M => StepI E ad ma Y_X6_above Y_X7_above [.ref (ad 0), .int (iI z1), .int (iI z2)] [.ref (ma 0), .int (iI z1), .int (iI z2)] C M) hRel ?_
  intro ra ia fnd ask fm nr rr wd N nc f sh mm w pl H hp hq kw kn kf nd pa de sz fi mt md mi tw tb tn tf tsh tmm tws tpl thr ask2 rw0 it md0 mm2 ua uw kp kni kwi pi pd ab pal hA hR hX hK hF hask hmm
  have hn := iX_n hX
  by_cases hok : 1 ≤ N ∧ 0 ≤ z1 ∧ z1 < N
  · obtain ⟨i, rfl⟩ : ∃ q : Nat, z1 = (q : Int) := ⟨z1.toNat, by omega⟩
    have hi : i < N := by omega
    by_cases hd : 0 ≤ z2
    · obtain ⟨dd, rfl⟩ : ∃ q : Nat, z2 = (q : Int) := ⟨z2.toNat, by omega⟩
      obtain ⟨rfl, hfk, hsh, hset, hos, hh1, hh2, hch⟩ := iX_y hX (by omega)
      have hg := tI_cg hfk
      have hdr := hz2.2
      have e : amF (tI it) N dd (i : Int) = anF (tI f) N (min ((dd : Int)).toNat N) (i : Int) := by
        rw [am_an (tI it) N dd _ (by omega), anF_cg hg _ _ (by omega), an_min (tI it) hi, Int.toNat_natCast]
      refine ⟨iI (anF (tI f) N (min ((dd : Int)).toNat N) (i : Int)), (fun N0 => N0 = CW E ad ra ia fnd ask fm nr rr (wd : Int) ((nB N wd : Nat) : Int) (N : Int) f sh mm w pl ((List.length H : Nat) : Int) hp hq kw kn kf (nd : Int) pa de sz fi mt md mi tw tb tn tf tsh tmm tws tpl), (fun N0 => ∃ pal2, N0 = MW E ma 0 ask2 fnd fm nr rw0 (N : Int) (wd : Int) it md0 mm2 ua uw ((List.length H : Nat) : Int) kp kni kwi pi pd (nd : Int) ab pal2), ?_, fun N0 h => by subst h; rfl, ?_, fun N0 h => by obtain ⟨_, rfl⟩ := h; rfl, ?_⟩
      · refine (MC.frame (M := CW E ad ra ia fnd ask fm nr rr (wd : Int) ((nB N wd : Nat) : Int) (N : Int) f sh mm w pl ((List.length H : Nat) : Int) hp hq kw kn kf (nd : Int) pa de sz fi mt md mi tw tb tn tf tsh tmm tws tpl) [0, 42, 17, 18, 19] (c_X6_above_ok E (ad 0) (ad 1) (ad 17) (ad 24) (ad 10) (ad 27) (ad 42) (ad 18) (ad 19) (ad 20) (ad 21) (ad 23) fnd ask (wd : Int) ((nB N wd : Nat) : Int) fm f N i (dd : Int) (by omega) hi (by omega) hz2) rfl rfl (by rintro _ _ ⟨rfl, rfl⟩; rfl)).mono ?_
        rintro _ _ ⟨_, ⟨rfl, rfl⟩, rfl⟩
        exact ⟨rfl, rfl⟩
      · refine (MC.frame (M := MW E ma thr ask2 fnd fm nr rw0 (N : Int) (wd : Int) it md0 mm2 ua uw ((List.length H : Nat) : Int) kp kni kwi pi pd (nd : Int) ab pal) [0, 4] (c_X7_above_ok E fnd ask2 (wd : Int) mm2 ((List.length H : Nat) : Int) (nd : Int) (ma 0) (ma 1) (ma 2) (ma 3) (ma 4) (ma 5) (ma 6) (ma 7) (ma 8) (ma 9) (ma 10) (ma 11) (ma 12) thr pd pal it N i dd (by omega) hi (by omega) (fun q hq => by rw [(dm_top (tI it) hq).1]; exact paF_in (tI it) hq)) rfl rfl (by rintro _ _ ⟨pal2, rfl, rfl⟩; rfl)).mono ?_
        rintro _ _ ⟨_, ⟨pal2, rfl, rfl⟩, rfl⟩
        exact ⟨congrArg (fun z => some (Value.int (iI z))) (e), ⟨pal2, rfl⟩⟩
      · rintro _ _ rfl ⟨pal2, rfl⟩
        exact ⟨ra, ia, fnd, ask, fm, nr, rr, wd, N, (N : Int), f, sh, mm, w, pl, H, hp, hq, kw, kn, kf, nd, pa, de, sz, fi, mt, md, mi, tw, tb, tn, tf, tsh, tmm, tws, tpl, 0, ask2, rw0, it, md0, mm2, ua, uw, kp, kni, kwi, pi, pd, ab, pal2, rfl, rfl, hA, hR, hX, hK, hF, hask, hmm⟩
    · have hc : z2 < 0 ∧ (2 : Int) = 2 := ⟨by omega, rfl⟩
      refine ⟨iI (rz 2), (fun N0 => N0 = CW E ad ra ia (rf 2 fnd) ask (rm 2 fm) nr rr (wd : Int) ((nB N wd : Nat) : Int) nc f sh mm w pl ((List.length H : Nat) : Int) hp hq kw kn kf (nd : Int) pa de sz fi mt md mi tw tb tn tf tsh tmm tws tpl), (fun N0 => N0 = MW E ma 0 ask2 (rf 2 fnd) (rm 2 fm) nr rw0 (N : Int) (wd : Int) it md0 mm2 ua uw ((List.length H : Nat) : Int) kp kni kwi pi pd (nd : Int) ab pal), ?_, fun N0 h => by subst h; rfl, ?_, fun N0 h => by subst h; rfl, ?_⟩
      · refine (MC.frame (M := CW E ad ra ia fnd ask fm nr rr (wd : Int) ((nB N wd : Nat) : Int) nc f sh mm w pl ((List.length H : Nat) : Int) hp hq kw kn kf (nd : Int) pa de sz fi mt md mi tw tb tn tf tsh tmm tws tpl) [0, 42, 17, 18] (c_X6_above_bey E (ad 0) (ad 1) (ad 17) (ad 24) (ad 10) (ad 27) (ad 42) (ad 18) (ad 19) (ad 20) (ad 21) (ad 23) fnd ask (wd : Int) ((nB N wd : Nat) : Int) nc fm i z2 2 (by omega) (by omega) hz2 hc) rfl rfl (by rintro _ _ ⟨rfl, rfl⟩; rfl)).mono ?_
        rintro _ _ ⟨_, ⟨rfl, rfl⟩, rfl⟩
        exact ⟨rfl, rfl⟩
      · refine (MC.frame (M := MW E ma thr ask2 fnd fm nr rw0 (N : Int) (wd : Int) it md0 mm2 ua uw ((List.length H : Nat) : Int) kp kni kwi pi pd (nd : Int) ab pal) [0, 1] (c_X7_above_bey E fnd ask2 (wd : Int) (N : Int) mm2 ((List.length H : Nat) : Int) (nd : Int) fm (ma 0) (ma 1) (ma 2) (ma 3) (ma 4) (ma 5) (ma 6) (ma 7) (ma 8) (ma 9) (ma 10) (ma 11) (ma 12) thr pd pal i z2 2 (by omega) (by omega) hz2 hc) rfl rfl (by rintro _ _ ⟨rfl, rfl⟩; rfl)).mono ?_
        rintro _ _ ⟨_, ⟨rfl, rfl⟩, rfl⟩
        exact ⟨rfl, rfl⟩
      · rintro _ _ rfl rfl
        exact ⟨ra, ia, (rf 2 fnd), ask, (rm 2 fm), nr, rr, wd, N, nc, f, sh, mm, w, pl, H, hp, hq, kw, kn, kf, nd, pa, de, sz, fi, mt, md, mi, tw, tb, tn, tf, tsh, tmm, tws, tpl, 0, ask2, rw0, it, md0, mm2, ua, uw, kp, kni, kwi, pi, pd, ab, pal, rfl, rfl, hA, hR, hX, hK, hF, hask, hmm⟩
  · obtain ⟨c, hc⟩ : ∃ c : Int, (N = 0 ∧ c = -2) ∨ (1 ≤ N ∧ (z1 < 0 ∨ (N : Int) ≤ z1) ∧ c = 2) := by
      by_cases h0 : N = 0
      · exact ⟨-2, Or.inl ⟨h0, rfl⟩⟩
      · exact ⟨2, Or.inr ⟨by omega, by omega, rfl⟩⟩
    refine ⟨iI (rz c), (fun N0 => N0 = CW E ad ra ia (rf c fnd) ask (rm c fm) nr rr (wd : Int) ((nB N wd : Nat) : Int) nc f sh mm w pl ((List.length H : Nat) : Int) hp hq kw kn kf (nd : Int) pa de sz fi mt md mi tw tb tn tf tsh tmm tws tpl), (fun N0 => N0 = MW E ma 0 ask2 (rf c fnd) (rm c fm) nr rw0 (N : Int) (wd : Int) it md0 mm2 ua uw ((List.length H : Nat) : Int) kp kni kwi pi pd (nd : Int) ab pal), ?_, fun N0 h => by subst h; rfl, ?_, fun N0 h => by subst h; rfl, ?_⟩
    · refine (MC.frame (M := CW E ad ra ia fnd ask fm nr rr (wd : Int) ((nB N wd : Nat) : Int) nc f sh mm w pl ((List.length H : Nat) : Int) hp hq kw kn kf (nd : Int) pa de sz fi mt md mi tw tb tn tf tsh tmm tws tpl) [0, 42, 17, 18] (c_X6_above_no E (ad 0) (ad 1) (ad 17) (ad 24) (ad 10) (ad 27) (ad 42) (ad 18) (ad 19) (ad 20) (ad 21) (ad 23) fnd ask (wd : Int) ((nB N wd : Nat) : Int) nc fm z1 c z2 (by omega) hz1 (by omega)) rfl rfl (by rintro _ _ ⟨rfl, rfl⟩; rfl)).mono ?_
      rintro _ _ ⟨_, ⟨rfl, rfl⟩, rfl⟩
      exact ⟨rfl, rfl⟩
    · refine (MC.frame (M := MW E ma thr ask2 fnd fm nr rw0 (N : Int) (wd : Int) it md0 mm2 ua uw ((List.length H : Nat) : Int) kp kni kwi pi pd (nd : Int) ab pal) [0, 1] (c_X7_above_no E fnd ask2 (wd : Int) (N : Int) mm2 ((List.length H : Nat) : Int) (nd : Int) fm (ma 0) (ma 1) (ma 2) (ma 3) (ma 4) (ma 5) (ma 6) (ma 7) (ma 8) (ma 9) (ma 10) (ma 11) (ma 12) thr pd pal z1 c z2 (by omega) hz1 (by omega)) rfl rfl (by rintro _ _ ⟨rfl, rfl⟩; rfl)).mono ?_
      rintro _ _ ⟨_, ⟨rfl, rfl⟩, rfl⟩
      exact ⟨rfl, rfl⟩
    · rintro _ _ rfl rfl
      exact ⟨ra, ia, (rf c fnd), ask, (rm c fm), nr, rr, wd, N, nc, f, sh, mm, w, pl, H, hp, hq, kw, kn, kf, nd, pa, de, sz, fi, mt, md, mi, tw, tb, tn, tf, tsh, tmm, tws, tpl, 0, ask2, rw0, it, md0, mm2, ua, uw, kp, kni, kwi, pi, pd, ab, pal, rfl, rfl, hA, hR, hX, hK, hF, hask, hmm⟩

set_option maxRecDepth 100000 in
set_option maxHeartbeats 4000000 in
theorem st_alike (E : jD) (ad ma : Nat → Nat) (C M : va_W) (hRel : Rel E ad ma C M) (z1 : Int) (z2 : Int) (z3 : Int) (hz1 : jr z1) (hz2 : jr z2) (hz3 : jr z3) : StepI E ad ma Y_X6_alike Y_X7_alike [.ref (ad 0), .int (iI z1), .int (iI z2), .int (iI z3)] [.ref (ma 0), .int (iI z1), .int (iI z2), .int (iI z3)] C M := by
  refine Rel_elim (P := fun C M => StepI E ad ma Y_X6_alike Y_X7_alike [.ref (ad 0), .int (iI z1), .int (iI z2), .int (iI z3)] [.ref (ma 0), .int (iI z1), .int (iI z2), .int (iI z3)] C M) hRel ?_
  intro ra ia fnd ask fm nr rr wd N nc f sh mm w pl H hp hq kw kn kf nd pa de sz fi mt md mi tw tb tn tf tsh tmm tws tpl thr ask2 rw0 it md0 mm2 ua uw kp kni kwi pi pd ab pal hA hR hX hK hF hask hmm
  have hn := iX_n hX
  by_cases hok : 1 ≤ N ∧ 0 ≤ z1 ∧ 0 ≤ z2 ∧ 0 ≤ z3 ∧ z1 + z3 ≤ N ∧ z2 + z3 ≤ N
  · obtain ⟨i, rfl⟩ : ∃ q : Nat, z1 = (q : Int) := ⟨z1.toNat, by omega⟩
    obtain ⟨j, rfl⟩ : ∃ q : Nat, z2 = (q : Int) := ⟨z2.toNat, by omega⟩
    obtain ⟨m, rfl⟩ : ∃ q : Nat, z3 = (q : Int) := ⟨z3.toNat, by omega⟩
    obtain ⟨rfl, hfk, hsh, hset, hos, hh1, hh2, hch⟩ := iX_y hX (by omega)
    have hg := tI_cg hfk
    have e : bI (∀ k, k < m → tkF (tI it) i k = tkF (tI it) j k) = bI (∀ k, k < m → stF (tI f) i (i + k) = stF (tI f) j (j + k)) := by
      refine bI_iff ?_
      rw [← alike_iff]
      constructor
      · intro h k hk
        rw [stF_cg hg i (by omega), stF_cg hg j (by omega)]
        exact h k hk
      · intro h k hk
        rw [← stF_cg hg i (by omega), ← stF_cg hg j (by omega)]
        exact h k hk
    refine ⟨iI (bI (∀ k, k < m → stF (tI f) i (i + k) = stF (tI f) j (j + k))), (fun N0 => N0 = CW E ad ra ia fnd ask fm nr rr (wd : Int) ((nB N wd : Nat) : Int) (N : Int) f sh mm w pl ((List.length H : Nat) : Int) hp hq kw kn kf (nd : Int) pa de sz fi mt md mi tw tb tn tf tsh tmm tws tpl), (fun N0 => ∃ pd2 pi2, N0 = MW E ma 0 ask2 fnd fm nr rw0 (N : Int) (wd : Int) it md0 mm2 ua uw ((List.length H : Nat) : Int) kp kni kwi pi2 pd2 (nd : Int) ab pal), ?_, fun N0 h => by subst h; rfl, ?_, fun N0 h => by obtain ⟨_, _, rfl⟩ := h; rfl, ?_⟩
    · refine (MC.frame (M := CW E ad ra ia fnd ask fm nr rr (wd : Int) ((nB N wd : Nat) : Int) (N : Int) f sh mm w pl ((List.length H : Nat) : Int) hp hq kw kn kf (nd : Int) pa de sz fi mt md mi tw tb tn tf tsh tmm tws tpl) [0, 42, 17, 18, 19] (c_X6_alike_ok E (ad 0) (ad 1) (ad 17) (ad 24) (ad 10) (ad 27) (ad 42) (ad 18) (ad 19) (ad 20) (ad 21) (ad 23) fnd ask (wd : Int) ((nB N wd : Nat) : Int) fm f N i j m (by omega) (by omega) (by omega)) rfl rfl (by rintro _ _ ⟨rfl, rfl⟩; rfl)).mono ?_
      rintro _ _ ⟨_, ⟨rfl, rfl⟩, rfl⟩
      exact ⟨rfl, rfl⟩
    · refine (MC.frame (M := MW E ma thr ask2 fnd fm nr rw0 (N : Int) (wd : Int) it md0 mm2 ua uw ((List.length H : Nat) : Int) kp kni kwi pi pd (nd : Int) ab pal) [0, 4, 11] (c_X7_alike_ok E fnd ask2 (wd : Int) mm2 ((List.length H : Nat) : Int) (nd : Int) (ma 0) (ma 1) (ma 2) (ma 3) (ma 4) (ma 5) (ma 6) (ma 7) (ma 8) (ma 9) (ma 10) (ma 11) (ma 12) thr pd pal it pi N i j m (by omega) (by omega) (by omega)) rfl rfl (by rintro _ _ ⟨pd2, pi2, rfl, rfl⟩; rfl)).mono ?_
      rintro _ _ ⟨_, ⟨pd2, pi2, rfl, rfl⟩, rfl⟩
      exact ⟨congrArg (fun z => some (Value.int (iI z))) (e), ⟨pd2, pi2, rfl⟩⟩
    · rintro _ _ rfl ⟨pd2, pi2, rfl⟩
      exact ⟨ra, ia, fnd, ask, fm, nr, rr, wd, N, (N : Int), f, sh, mm, w, pl, H, hp, hq, kw, kn, kf, nd, pa, de, sz, fi, mt, md, mi, tw, tb, tn, tf, tsh, tmm, tws, tpl, 0, ask2, rw0, it, md0, mm2, ua, uw, kp, kni, kwi, pi2, pd2, ab, pal, rfl, rfl, hA, hR, hX, hK, hF, hask, hmm⟩
  · obtain ⟨c, hc⟩ : ∃ c : Int, (N = 0 ∧ c = -2) ∨ (1 ≤ N ∧ (z1 < 0 ∨ z3 < 0 ∨ (N : Int) - z1 < z3 ∨ z2 < 0 ∨ (N : Int) - z2 < z3) ∧ c = 2) := by
      by_cases h0 : N = 0
      · exact ⟨-2, Or.inl ⟨h0, rfl⟩⟩
      · exact ⟨2, Or.inr ⟨by omega, by omega, rfl⟩⟩
    refine ⟨iI (rz c), (fun N0 => N0 = CW E ad ra ia (rf c fnd) ask (rm c fm) nr rr (wd : Int) ((nB N wd : Nat) : Int) nc f sh mm w pl ((List.length H : Nat) : Int) hp hq kw kn kf (nd : Int) pa de sz fi mt md mi tw tb tn tf tsh tmm tws tpl), (fun N0 => N0 = MW E ma 0 ask2 (rf c fnd) (rm c fm) nr rw0 (N : Int) (wd : Int) it md0 mm2 ua uw ((List.length H : Nat) : Int) kp kni kwi pi pd (nd : Int) ab pal), ?_, fun N0 h => by subst h; rfl, ?_, fun N0 h => by subst h; rfl, ?_⟩
    · refine (MC.frame (M := CW E ad ra ia fnd ask fm nr rr (wd : Int) ((nB N wd : Nat) : Int) nc f sh mm w pl ((List.length H : Nat) : Int) hp hq kw kn kf (nd : Int) pa de sz fi mt md mi tw tb tn tf tsh tmm tws tpl) [0, 42, 17, 18] (c_X6_alike_no E (ad 0) (ad 1) (ad 17) (ad 24) (ad 10) (ad 27) (ad 42) (ad 18) (ad 19) (ad 20) (ad 21) (ad 23) fnd ask (wd : Int) ((nB N wd : Nat) : Int) nc fm z1 z2 z3 c (by omega) hz1 hz2 hz3 (by omega)) rfl rfl (by rintro _ _ ⟨rfl, rfl⟩; rfl)).mono ?_
      rintro _ _ ⟨_, ⟨rfl, rfl⟩, rfl⟩
      exact ⟨rfl, rfl⟩
    · refine (MC.frame (M := MW E ma thr ask2 fnd fm nr rw0 (N : Int) (wd : Int) it md0 mm2 ua uw ((List.length H : Nat) : Int) kp kni kwi pi pd (nd : Int) ab pal) [0, 1] (c_X7_alike_no E fnd ask2 (wd : Int) (N : Int) mm2 ((List.length H : Nat) : Int) (nd : Int) fm (ma 0) (ma 1) (ma 2) (ma 3) (ma 4) (ma 5) (ma 6) (ma 7) (ma 8) (ma 9) (ma 10) (ma 11) (ma 12) thr pd pal z1 z2 z3 c (by omega) hz1 hz2 hz3 (by omega)) rfl rfl (by rintro _ _ ⟨rfl, rfl⟩; rfl)).mono ?_
      rintro _ _ ⟨_, ⟨rfl, rfl⟩, rfl⟩
      exact ⟨rfl, rfl⟩
    · rintro _ _ rfl rfl
      exact ⟨ra, ia, (rf c fnd), ask, (rm c fm), nr, rr, wd, N, nc, f, sh, mm, w, pl, H, hp, hq, kw, kn, kf, nd, pa, de, sz, fi, mt, md, mi, tw, tb, tn, tf, tsh, tmm, tws, tpl, 0, ask2, rw0, it, md0, mm2, ua, uw, kp, kni, kwi, pi, pd, ab, pal, rfl, rfl, hA, hR, hX, hK, hF, hask, hmm⟩

set_option maxRecDepth 100000 in
set_option maxHeartbeats 4000000 in
theorem st_shape (E : jD) (ad ma : Nat → Nat) (C M : va_W) (hRel : Rel E ad ma C M) (z1 : Int) (hz1 : jr z1) : StepI E ad ma Y_X6_shape Y_X7_shape [.ref (ad 0), .int (iI z1)] [.ref (ma 0), .int (iI z1)] C M := by
  refine Rel_elim (P := fun C M => StepI E ad ma Y_X6_shape Y_X7_shape [.ref (ad 0), .int (iI z1)] [.ref (ma 0), .int (iI z1)] C M) hRel ?_
  intro ra ia fnd ask fm nr rr wd N nc f sh mm w pl H hp hq kw kn kf nd pa de sz fi mt md mi tw tb tn tf tsh tmm tws tpl thr ask2 rw0 it md0 mm2 ua uw kp kni kwi pi pd ab pal hA hR hX hK hF hask hmm
  have hn := iX_n hX
  have h48 := nB_48 (n := N) (wd := wd) (by omega)
  by_cases hok : 1 ≤ N ∧ 0 ≤ z1 ∧ z1 < (nB N wd : Int)
  · obtain ⟨q, rfl⟩ : ∃ q : Nat, z1 = (q : Int) := ⟨z1.toNat, by omega⟩
    have hq0 : q < nB N wd := by omega
    obtain ⟨rfl, hfk, hsh, hset, hos, hh1, hh2, hch⟩ := iX_y hX (by omega)
    have hg := tI_cg hfk
    have e : ((shB (tI it) N wd q : Nat) : Int) = (sh q).toInt := by
      have hs := shB_lt (tI f) N (w := wd) q (by omega)
      rw [hsh q hq0, ← shB_cg hg]
      exact (iI_t ⟨by omega, by omega⟩).symm
    refine ⟨iI ((sh q).toInt), (fun N0 => N0 = CW E ad ra ia fnd ask fm nr rr (wd : Int) ((nB N wd : Nat) : Int) (N : Int) f sh mm w pl ((List.length H : Nat) : Int) hp hq kw kn kf (nd : Int) pa de sz fi mt md mi tw tb tn tf tsh tmm tws tpl), (fun N0 => ∃ pd2 pi2, N0 = MW E ma 0 ask2 fnd fm nr rw0 (N : Int) (wd : Int) it md0 mm2 ua uw ((List.length H : Nat) : Int) kp kni kwi pi2 pd2 (nd : Int) ab pal), ?_, fun N0 h => by subst h; rfl, ?_, fun N0 h => by obtain ⟨_, _, rfl⟩ := h; rfl, ?_⟩
    · refine (MC.frame (M := CW E ad ra ia fnd ask fm nr rr (wd : Int) ((nB N wd : Nat) : Int) (N : Int) f sh mm w pl ((List.length H : Nat) : Int) hp hq kw kn kf (nd : Int) pa de sz fi mt md mi tw tb tn tf tsh tmm tws tpl) [0, 42, 17, 18, 20] (c_X6_shape_ok E (ad 0) (ad 1) (ad 17) (ad 24) (ad 10) (ad 27) (ad 42) (ad 18) (ad 19) (ad 20) (ad 21) (ad 23) fnd ask (wd : Int) (N : Int) fm sh (nB N wd) q (by omega) (by omega) (by omega) (by omega)) rfl rfl (by rintro _ _ ⟨rfl, rfl⟩; rfl)).mono ?_
      rintro _ _ ⟨_, ⟨rfl, rfl⟩, rfl⟩
      exact ⟨rfl, rfl⟩
    · refine (MC.frame (M := MW E ma thr ask2 fnd fm nr rw0 (N : Int) (wd : Int) it md0 mm2 ua uw ((List.length H : Nat) : Int) kp kni kwi pi pd (nd : Int) ab pal) [0, 4, 11] (c_X7_shape_ok E fnd ask2 mm2 ((List.length H : Nat) : Int) (nd : Int) (ma 0) (ma 1) (ma 2) (ma 3) (ma 4) (ma 5) (ma 6) (ma 7) (ma 8) (ma 9) (ma 10) (ma 11) (ma 12) thr pd pal it pi N wd q (by omega) (by omega) hq0) rfl rfl (by rintro _ _ ⟨pd2, pi2, rfl, rfl⟩; rfl)).mono ?_
      rintro _ _ ⟨_, ⟨pd2, pi2, rfl, rfl⟩, rfl⟩
      exact ⟨congrArg (fun z => some (Value.int (iI z))) (e), ⟨pd2, pi2, rfl⟩⟩
    · rintro _ _ rfl ⟨pd2, pi2, rfl⟩
      exact ⟨ra, ia, fnd, ask, fm, nr, rr, wd, N, (N : Int), f, sh, mm, w, pl, H, hp, hq, kw, kn, kf, nd, pa, de, sz, fi, mt, md, mi, tw, tb, tn, tf, tsh, tmm, tws, tpl, 0, ask2, rw0, it, md0, mm2, ua, uw, kp, kni, kwi, pi2, pd2, ab, pal, rfl, rfl, hA, hR, hX, hK, hF, hask, hmm⟩
  · obtain ⟨c, hc⟩ : ∃ c : Int, (N = 0 ∧ c = -2) ∨ (1 ≤ N ∧ (z1 < 0 ∨ (nB N wd : Int) ≤ z1) ∧ c = 2) := by
      by_cases h0 : N = 0
      · exact ⟨-2, Or.inl ⟨h0, rfl⟩⟩
      · exact ⟨2, Or.inr ⟨by omega, by omega, rfl⟩⟩
    refine ⟨iI (rz c), (fun N0 => N0 = CW E ad ra ia (rf c fnd) ask (rm c fm) nr rr (wd : Int) ((nB N wd : Nat) : Int) nc f sh mm w pl ((List.length H : Nat) : Int) hp hq kw kn kf (nd : Int) pa de sz fi mt md mi tw tb tn tf tsh tmm tws tpl), (fun N0 => N0 = MW E ma 0 ask2 (rf c fnd) (rm c fm) nr rw0 (N : Int) (wd : Int) it md0 mm2 ua uw ((List.length H : Nat) : Int) kp kni kwi pi pd (nd : Int) ab pal), ?_, fun N0 h => by subst h; rfl, ?_, fun N0 h => by subst h; rfl, ?_⟩
    · refine (MC.frame (M := CW E ad ra ia fnd ask fm nr rr (wd : Int) ((nB N wd : Nat) : Int) nc f sh mm w pl ((List.length H : Nat) : Int) hp hq kw kn kf (nd : Int) pa de sz fi mt md mi tw tb tn tf tsh tmm tws tpl) [0, 42, 17, 18] (c_X6_shape_no E (ad 0) (ad 1) (ad 17) (ad 24) (ad 10) (ad 27) (ad 42) (ad 18) (ad 19) (ad 20) (ad 21) (ad 23) fnd ask (wd : Int) ((nB N wd : Nat) : Int) nc fm z1 c (by omega) (by omega) hz1 (by omega)) rfl rfl (by rintro _ _ ⟨rfl, rfl⟩; rfl)).mono ?_
      rintro _ _ ⟨_, ⟨rfl, rfl⟩, rfl⟩
      exact ⟨rfl, rfl⟩
    · refine (MC.frame (M := MW E ma thr ask2 fnd fm nr rw0 (N : Int) (wd : Int) it md0 mm2 ua uw ((List.length H : Nat) : Int) kp kni kwi pi pd (nd : Int) ab pal) [0, 1] (c_X7_shape_no E fnd ask2 mm2 ((List.length H : Nat) : Int) (nd : Int) fm (ma 0) (ma 1) (ma 2) (ma 3) (ma 4) (ma 5) (ma 6) (ma 7) (ma 8) (ma 9) (ma 10) (ma 11) (ma 12) thr pd pal N wd z1 c (by omega) hz1 (by omega)) rfl rfl (by rintro _ _ ⟨rfl, rfl⟩; rfl)).mono ?_
      rintro _ _ ⟨_, ⟨rfl, rfl⟩, rfl⟩
      exact ⟨rfl, rfl⟩
    · rintro _ _ rfl rfl
      exact ⟨ra, ia, (rf c fnd), ask, (rm c fm), nr, rr, wd, N, nc, f, sh, mm, w, pl, H, hp, hq, kw, kn, kf, nd, pa, de, sz, fi, mt, md, mi, tw, tb, tn, tf, tsh, tmm, tws, tpl, 0, ask2, rw0, it, md0, mm2, ua, uw, kp, kni, kwi, pi, pd, ab, pal, rfl, rfl, hA, hR, hX, hK, hF, hask, hmm⟩

set_option maxRecDepth 100000 in
set_option maxHeartbeats 4000000 in
theorem st_entry (E : jD) (ad ma : Nat → Nat) (C M : va_W) (hRel : Rel E ad ma C M) (z1 : Int) (z2 : Int) (z3 : Int) (hz1 : jr z1) (hz2 : jr z2) (hz3 : jr z3) : StepI E ad ma Y_X6_entry Y_X7_entry [.ref (ad 0), .int (iI z1), .int (iI z2), .int (iI z3)] [.ref (ma 0), .int (iI z1), .int (iI z2), .int (iI z3)] C M := by
  refine Rel_elim (P := fun C M => StepI E ad ma Y_X6_entry Y_X7_entry [.ref (ad 0), .int (iI z1), .int (iI z2), .int (iI z3)] [.ref (ma 0), .int (iI z1), .int (iI z2), .int (iI z3)] C M) hRel ?_
  intro ra ia fnd ask fm nr rr wd N nc f sh mm w pl H hp hq kw kn kf nd pa de sz fi mt md mi tw tb tn tf tsh tmm tws tpl thr ask2 rw0 it md0 mm2 ua uw kp kni kwi pi pd ab pal hA hR hX hK hF hask hmm
  have hn := iX_n hX
  by_cases h0 : N = 0
  · refine ⟨iI (rz (-2)), (fun N0 => N0 = CW E ad ra ia fnd ask fm nr rr (wd : Int) ((nB N wd : Nat) : Int) nc f sh mm w pl ((List.length H : Nat) : Int) hp hq kw kn kf (nd : Int) pa de sz fi mt md mi tw tb tn tf tsh tmm tws tpl), (fun N0 => N0 = MW E ma 0 ask2 fnd fm nr rw0 (N : Int) (wd : Int) it md0 mm2 ua uw ((List.length H : Nat) : Int) kp kni kwi pi pd (nd : Int) ab pal), ?_, fun N0 h => by subst h; rfl, ?_, fun N0 h => by subst h; rfl, ?_⟩
    · refine (MC.frame (M := CW E ad ra ia fnd ask fm nr rr (wd : Int) ((nB N wd : Nat) : Int) nc f sh mm w pl ((List.length H : Nat) : Int) hp hq kw kn kf (nd : Int) pa de sz fi mt md mi tw tb tn tf tsh tmm tws tpl) [0, 42, 17, 18, 21, 22] (c_X6_entry_state E (ad 0) (ad 1) (ad 17) (ad 24) (ad 10) (ad 27) (ad 42) (ad 18) (ad 19) (ad 20) (ad 21) (ad 22) (ad 23) fnd ask (wd : Int) ((nB N wd : Nat) : Int) nc mm fm w z1 z2 z3 (-2) (by omega) (by omega)) rfl rfl (by rintro _ _ ⟨rfl, rfl⟩; rfl)).mono ?_
      rintro _ _ ⟨_, ⟨rfl, rfl⟩, rfl⟩
      exact ⟨rfl, rfl⟩
    · refine (MC.frame (M := MW E ma thr ask2 fnd fm nr rw0 (N : Int) (wd : Int) it md0 mm2 ua uw ((List.length H : Nat) : Int) kp kni kwi pi pd (nd : Int) ab pal) [0] (c_X7_entry_state E fnd ask2 (wd : Int) (N : Int) mm2 ((List.length H : Nat) : Int) (nd : Int) (ma 0) (ma 1) (ma 2) (ma 3) (ma 4) (ma 5) (ma 6) (ma 7) (ma 8) (ma 9) (ma 10) (ma 11) (ma 12) thr pd pal z1 z2 z3 (-2) (by omega) (by omega)) rfl rfl (by rintro _ _ ⟨rfl, rfl⟩; rfl)).mono ?_
      rintro _ _ ⟨_, ⟨rfl, rfl⟩, rfl⟩
      exact ⟨rfl, rfl⟩
    · rintro _ _ rfl rfl
      exact ⟨ra, ia, fnd, ask, fm, nr, rr, wd, N, nc, f, sh, mm, w, pl, H, hp, hq, kw, kn, kf, nd, pa, de, sz, fi, mt, md, mi, tw, tb, tn, tf, tsh, tmm, tws, tpl, 0, ask2, rw0, it, md0, mm2, ua, uw, kp, kni, kwi, pi, pd, ab, pal, rfl, rfl, hA, hR, hX, hK, hF, hask, hmm⟩
  · obtain ⟨rfl, hfk, hsh, hset, hos, hh1, hh2, hch⟩ := iX_y hX (by omega)
    by_cases hs : (0 ≤ z1 ∧ z1 < 4096 ∧ wB w z1.toNat = true)
    · obtain ⟨s, rfl⟩ : ∃ q : Nat, z1 = (q : Int) := ⟨z1.toNat, by omega⟩
      have hs4 : s < 4096 := by omega
      have hb : wB w s = true := hs.2.2
      have hbm : mB md0 s = true := by rw [hset s (by omega), decide_eq_true hs4, hb]; rfl
      have hos1 := hos s hs4 hb
      obtain ⟨n1, n2, n3⟩ := ent_2 hos1 z2 z3
      by_cases hij : 0 ≤ z2 ∧ z2 ≤ z3 ∧ z3 < (ones s : Int) - 1
      · refine ⟨iI (teF s z2 z3), (fun N0 => ∃ pl2, N0 = CW E ad ra ia fnd ask fm nr rr (wd : Int) ((nB N wd : Nat) : Int) (N : Int) f sh mm w pl2 ((List.length H : Nat) : Int) hp hq kw kn kf (nd : Int) pa de sz fi mt md mi tw tb tn tf tsh tmm tws tpl), (fun N0 => ∃ pd2 pi2, N0 = MW E ma 0 ask2 fnd fm nr rw0 (N : Int) (wd : Int) it md0 mm2 ua uw ((List.length H : Nat) : Int) kp kni kwi pi2 pd2 (nd : Int) ab pal), ?_, fun N0 h => by obtain ⟨_, rfl⟩ := h; rfl, ?_, fun N0 h => by obtain ⟨_, _, rfl⟩ := h; rfl, ?_⟩
        · refine (MC.frame (M := CW E ad ra ia fnd ask fm nr rr (wd : Int) ((nB N wd : Nat) : Int) (N : Int) f sh mm w pl ((List.length H : Nat) : Int) hp hq kw kn kf (nd : Int) pa de sz fi mt md mi tw tb tn tf tsh tmm tws tpl) [0, 42, 17, 18, 21, 22, 23] (c_X6_entry_ok E (ad 0) (ad 1) (ad 17) (ad 24) (ad 10) (ad 27) (ad 42) (ad 18) (ad 19) (ad 20) (ad 21) (ad 22) (ad 23) fnd ask (wd : Int) ((nB N wd : Nat) : Int) (N : Int) mm fm pl w s z2 z3 (by omega) (by omega) hb (by omega) (by omega)) rfl rfl (by rintro _ _ ⟨pl2, rfl, rfl⟩; rfl)).mono ?_
          rintro _ _ ⟨_, ⟨pl2, rfl, rfl⟩, rfl⟩
          exact ⟨rfl, ⟨pl2, rfl⟩⟩
        · refine (MC.frame (M := MW E ma thr ask2 fnd fm nr rw0 (N : Int) (wd : Int) it md0 mm2 ua uw ((List.length H : Nat) : Int) kp kni kwi pi pd (nd : Int) ab pal) [0, 1, 5, 11] (c_X7_entry_ok E fnd ask2 (wd : Int) (N : Int) mm2 ((List.length H : Nat) : Int) (nd : Int) fm (ma 0) (ma 1) (ma 2) (ma 3) (ma 4) (ma 5) (ma 6) (ma 7) (ma 8) (ma 9) (ma 10) (ma 11) (ma 12) thr pd pal md0 pi s (ones s - 1) z2 z3 (by omega) (by omega) hbm (ent_1 hos1) hz2 hz3 n1 (by omega) (by omega)) rfl rfl (by rintro _ _ ⟨pd2, pi2, rfl, rfl⟩; rfl)).mono ?_
          rintro _ _ ⟨_, ⟨pd2, pi2, rfl, rfl⟩, rfl⟩
          exact ⟨congrArg (fun z => some (Value.int (iI z))) (ent_3 hos1 hij), ⟨pd2, pi2, rfl⟩⟩
        · rintro _ _ ⟨pl2, rfl⟩ ⟨pd2, pi2, rfl⟩
          exact ⟨ra, ia, fnd, ask, fm, nr, rr, wd, N, (N : Int), f, sh, mm, w, pl2, H, hp, hq, kw, kn, kf, nd, pa, de, sz, fi, mt, md, mi, tw, tb, tn, tf, tsh, tmm, tws, tpl, 0, ask2, rw0, it, md0, mm2, ua, uw, kp, kni, kwi, pi2, pd2, ab, pal, rfl, rfl, hA, hR, hX, hK, hF, hask, hmm⟩
      · refine ⟨iI (rz 2), (fun N0 => N0 = CW E ad ra ia (rf 2 fnd) ask (rm 2 fm) nr rr (wd : Int) ((nB N wd : Nat) : Int) (N : Int) f sh mm w pl ((List.length H : Nat) : Int) hp hq kw kn kf (nd : Int) pa de sz fi mt md mi tw tb tn tf tsh tmm tws tpl), (fun N0 => ∃ pd2 pi2, N0 = MW E ma 0 ask2 (rf 2 fnd) (rm 2 fm) nr rw0 (N : Int) (wd : Int) it md0 mm2 ua uw ((List.length H : Nat) : Int) kp kni kwi pi2 pd2 (nd : Int) ab pal), ?_, fun N0 h => by subst h; rfl, ?_, fun N0 h => by obtain ⟨_, _, rfl⟩ := h; rfl, ?_⟩
        · refine (MC.frame (M := CW E ad ra ia fnd ask fm nr rr (wd : Int) ((nB N wd : Nat) : Int) (N : Int) f sh mm w pl ((List.length H : Nat) : Int) hp hq kw kn kf (nd : Int) pa de sz fi mt md mi tw tb tn tf tsh tmm tws tpl) [0, 42, 17, 18, 21, 22] (c_X6_entry_bey E (ad 0) (ad 1) (ad 17) (ad 24) (ad 10) (ad 27) (ad 42) (ad 18) (ad 19) (ad 20) (ad 21) (ad 22) (ad 23) fnd ask (wd : Int) ((nB N wd : Nat) : Int) (N : Int) mm fm w s z2 z3 2 (by omega) (by omega) hb hz2 hz3 (by omega)) rfl rfl (by rintro _ _ ⟨rfl, rfl⟩; rfl)).mono ?_
          rintro _ _ ⟨_, ⟨rfl, rfl⟩, rfl⟩
          exact ⟨rfl, rfl⟩
        · refine (MC.frame (M := MW E ma thr ask2 fnd fm nr rw0 (N : Int) (wd : Int) it md0 mm2 ua uw ((List.length H : Nat) : Int) kp kni kwi pi pd (nd : Int) ab pal) [0, 1, 5, 11] (c_X7_entry_bey E fnd ask2 (wd : Int) (N : Int) mm2 ((List.length H : Nat) : Int) (nd : Int) fm (ma 0) (ma 1) (ma 2) (ma 3) (ma 4) (ma 5) (ma 6) (ma 7) (ma 8) (ma 9) (ma 10) (ma 11) (ma 12) thr pd pal md0 pi s (ones s - 1) z2 z3 2 (by omega) (by omega) hbm (ent_1 hos1) hz2 hz3 n1 (by omega) (by omega)) rfl rfl (by rintro _ _ ⟨pd2, pi2, rfl, rfl⟩; rfl)).mono ?_
          rintro _ _ ⟨_, ⟨pd2, pi2, rfl, rfl⟩, rfl⟩
          exact ⟨rfl, ⟨pd2, pi2, rfl⟩⟩
        · rintro _ _ rfl ⟨pd2, pi2, rfl⟩
          exact ⟨ra, ia, (rf 2 fnd), ask, (rm 2 fm), nr, rr, wd, N, (N : Int), f, sh, mm, w, pl, H, hp, hq, kw, kn, kf, nd, pa, de, sz, fi, mt, md, mi, tw, tb, tn, tf, tsh, tmm, tws, tpl, 0, ask2, rw0, it, md0, mm2, ua, uw, kp, kni, kwi, pi2, pd2, ab, pal, rfl, rfl, hA, hR, hX, hK, hF, hask, hmm⟩
    · have hs2 : ¬ (0 ≤ z1 ∧ z1 ≤ 8191 ∧ mB md0 z1.toNat = true) := by
        rintro ⟨a1, a2, a3⟩
        rw [hset _ (by omega), Bool.and_eq_true, decide_eq_true_eq] at a3
        exact hs ⟨a1, by omega, a3.2⟩
      refine ⟨iI (rz (-1)), (fun N0 => N0 = CW E ad ra ia fnd ask fm nr rr (wd : Int) ((nB N wd : Nat) : Int) (N : Int) f sh mm w pl ((List.length H : Nat) : Int) hp hq kw kn kf (nd : Int) pa de sz fi mt md mi tw tb tn tf tsh tmm tws tpl), (fun N0 => N0 = MW E ma 0 ask2 fnd fm nr rw0 (N : Int) (wd : Int) it md0 mm2 ua uw ((List.length H : Nat) : Int) kp kni kwi pi pd (nd : Int) ab pal), ?_, fun N0 h => by subst h; rfl, ?_, fun N0 h => by subst h; rfl, ?_⟩
      · refine (MC.frame (M := CW E ad ra ia fnd ask fm nr rr (wd : Int) ((nB N wd : Nat) : Int) (N : Int) f sh mm w pl ((List.length H : Nat) : Int) hp hq kw kn kf (nd : Int) pa de sz fi mt md mi tw tb tn tf tsh tmm tws tpl) [0, 42, 17, 18, 21, 22] (c_X6_entry_bad E (ad 0) (ad 1) (ad 17) (ad 24) (ad 10) (ad 27) (ad 42) (ad 18) (ad 19) (ad 20) (ad 21) (ad 22) (ad 23) fnd ask (wd : Int) ((nB N wd : Nat) : Int) (N : Int) mm fm w z1 z2 z3 (-1) (by omega) hz1 hs (by omega)) rfl rfl (by rintro _ _ ⟨rfl, rfl⟩; rfl)).mono ?_
        rintro _ _ ⟨_, ⟨rfl, rfl⟩, rfl⟩
        exact ⟨rfl, rfl⟩
      · refine (MC.frame (M := MW E ma thr ask2 fnd fm nr rw0 (N : Int) (wd : Int) it md0 mm2 ua uw ((List.length H : Nat) : Int) kp kni kwi pi pd (nd : Int) ab pal) [0, 5] (c_X7_entry_bad E fnd ask2 (wd : Int) (N : Int) mm2 ((List.length H : Nat) : Int) (nd : Int) (ma 0) (ma 1) (ma 2) (ma 3) (ma 4) (ma 5) (ma 6) (ma 7) (ma 8) (ma 9) (ma 10) (ma 11) (ma 12) thr pd pal md0 z1 z2 z3 (-1) (by omega) hz1 hs2 (by omega)) rfl rfl (by rintro _ _ ⟨rfl, rfl⟩; rfl)).mono ?_
        rintro _ _ ⟨_, ⟨rfl, rfl⟩, rfl⟩
        exact ⟨rfl, rfl⟩
      · rintro _ _ rfl rfl
        exact ⟨ra, ia, fnd, ask, fm, nr, rr, wd, N, (N : Int), f, sh, mm, w, pl, H, hp, hq, kw, kn, kf, nd, pa, de, sz, fi, mt, md, mi, tw, tb, tn, tf, tsh, tmm, tws, tpl, 0, ask2, rw0, it, md0, mm2, ua, uw, kp, kni, kwi, pi, pd, ab, pal, rfl, rfl, hA, hR, hX, hK, hF, hask, hmm⟩

set_option maxRecDepth 100000 in
set_option maxHeartbeats 4000000 in
theorem st_sum (E : jD) (ad ma : Nat → Nat) (C M : va_W) (hRel : Rel E ad ma C M)   : StepL E ad ma Y_X6_sum Y_X7_sum [.ref (ad 0)] [.ref (ma 0)] C M := by
  refine Rel_elim (P := fun C M => StepL E ad ma Y_X6_sum Y_X7_sum [.ref (ad 0)] [.ref (ma 0)] C M) hRel ?_
  intro ra ia fnd ask fm nr rr wd N nc f sh mm w pl H hp hq kw kn kf nd pa de sz fi mt md mi tw tb tn tf tsh tmm tws tpl thr ask2 rw0 it md0 mm2 ua uw kp kni kwi pi pd ab pal hA hR hX hK hF hask hmm
  have hn := iX_n hX
  by_cases h0 : N = 0
  · obtain rfl : nc = -1 := by omega
    subst h0
    refine ⟨(0 : Int64), (fun N0 => N0 = CW E ad ra ia fnd ask fm nr rr (wd : Int) ((nB 0 wd : Nat) : Int) (-1) f sh mm w pl ((List.length H : Nat) : Int) hp hq kw kn kf (nd : Int) pa de sz fi mt md mi tw tb tn tf tsh tmm tws tpl), (fun N0 => N0 = MW E ma 0 ask2 fnd fm nr rw0 (0 : Int) (wd : Int) it md0 mm2 ua uw ((List.length H : Nat) : Int) kp kni kwi pi pd (nd : Int) ab pal), ?_, fun N0 h => by subst h; rfl, ?_, fun N0 h => by subst h; rfl, ?_⟩
    · refine (MC.frame (M := CW E ad ra ia fnd ask fm nr rr (wd : Int) ((nB 0 wd : Nat) : Int) (-1) f sh mm w pl ((List.length H : Nat) : Int) hp hq kw kn kf (nd : Int) pa de sz fi mt md mi tw tb tn tf tsh tmm tws tpl) [0, 17, 18] (c_X6_sum_none E (ad 0) (ad 1) (ad 17) (ad 24) (ad 10) (ad 27) (ad 42) (ad 18) (ad 19) (ad 20) (ad 21) (ad 23) fnd ask (wd : Int) ((nB 0 wd : Nat) : Int) (-1) (by omega)) rfl rfl (by rintro _ _ ⟨rfl, rfl⟩; rfl)).mono ?_
      rintro _ _ ⟨_, ⟨rfl, rfl⟩, rfl⟩
      exact ⟨rfl, rfl⟩
    · refine (MC.frame (M := MW E ma thr ask2 fnd fm nr rw0 (0 : Int) (wd : Int) it md0 mm2 ua uw ((List.length H : Nat) : Int) kp kni kwi pi pd (nd : Int) ab pal) [0, 4] (c_X7_sum E fnd ask2 (wd : Int) mm2 ((List.length H : Nat) : Int) (nd : Int) (ma 0) (ma 1) (ma 2) (ma 3) (ma 4) (ma 5) (ma 6) (ma 7) (ma 8) (ma 9) (ma 10) (ma 11) (ma 12) thr pd pal it 0 (by omega)) rfl rfl (by rintro _ _ ⟨rfl, rfl⟩; rfl)).mono ?_
      rintro _ _ ⟨_, ⟨rfl, rfl⟩, rfl⟩
      exact ⟨rfl, rfl⟩
    · rintro _ _ rfl rfl
      exact ⟨ra, ia, fnd, ask, fm, nr, rr, wd, 0, (-1), f, sh, mm, w, pl, H, hp, hq, kw, kn, kf, nd, pa, de, sz, fi, mt, md, mi, tw, tb, tn, tf, tsh, tmm, tws, tpl, 0, ask2, rw0, it, md0, mm2, ua, uw, kp, kni, kwi, pi, pd, ab, pal, rfl, rfl, hA, hR, hX, hK, hF, hask, hmm⟩
  · obtain ⟨rfl, hfk, hsh, hset, hos, hh1, hh2, hch⟩ := iX_y hX (by omega)
    have hg := tI_cg hfk
    refine ⟨suF (tI f) N N, (fun N0 => N0 = CW E ad ra ia fnd ask fm nr rr (wd : Int) ((nB N wd : Nat) : Int) (N : Int) f sh mm w pl ((List.length H : Nat) : Int) hp hq kw kn kf (nd : Int) pa de sz fi mt md mi tw tb tn tf tsh tmm tws tpl), (fun N0 => N0 = MW E ma 0 ask2 fnd fm nr rw0 (N : Int) (wd : Int) it md0 mm2 ua uw ((List.length H : Nat) : Int) kp kni kwi pi pd (nd : Int) ab pal), ?_, fun N0 h => by subst h; rfl, ?_, fun N0 h => by subst h; rfl, ?_⟩
    · refine (MC.frame (M := CW E ad ra ia fnd ask fm nr rr (wd : Int) ((nB N wd : Nat) : Int) (N : Int) f sh mm w pl ((List.length H : Nat) : Int) hp hq kw kn kf (nd : Int) pa de sz fi mt md mi tw tb tn tf tsh tmm tws tpl) [0, 17, 18, 19] (c_X6_sum_ok E (ad 0) (ad 1) (ad 17) (ad 24) (ad 10) (ad 27) (ad 42) (ad 18) (ad 19) (ad 20) (ad 21) (ad 23) fnd ask (wd : Int) ((nB N wd : Nat) : Int) f N (by omega)) rfl rfl (by rintro _ _ ⟨rfl, rfl⟩; rfl)).mono ?_
      rintro _ _ ⟨_, ⟨rfl, rfl⟩, rfl⟩
      exact ⟨rfl, rfl⟩
    · refine (MC.frame (M := MW E ma thr ask2 fnd fm nr rw0 (N : Int) (wd : Int) it md0 mm2 ua uw ((List.length H : Nat) : Int) kp kni kwi pi pd (nd : Int) ab pal) [0, 4] (c_X7_sum E fnd ask2 (wd : Int) mm2 ((List.length H : Nat) : Int) (nd : Int) (ma 0) (ma 1) (ma 2) (ma 3) (ma 4) (ma 5) (ma 6) (ma 7) (ma 8) (ma 9) (ma 10) (ma 11) (ma 12) thr pd pal it N (by omega)) rfl rfl (by rintro _ _ ⟨rfl, rfl⟩; rfl)).mono ?_
      rintro _ _ ⟨_, ⟨rfl, rfl⟩, rfl⟩
      exact ⟨congrArg (fun z => some (Value.long z)) ((suF_cg hg N (Nat.le_refl _)).symm), rfl⟩
    · rintro _ _ rfl rfl
      exact ⟨ra, ia, fnd, ask, fm, nr, rr, wd, N, (N : Int), f, sh, mm, w, pl, H, hp, hq, kw, kn, kf, nd, pa, de, sz, fi, mt, md, mi, tw, tb, tn, tf, tsh, tmm, tws, tpl, 0, ask2, rw0, it, md0, mm2, ua, uw, kp, kni, kwi, pi, pd, ab, pal, rfl, rfl, hA, hR, hX, hK, hF, hask, hmm⟩

set_option maxRecDepth 100000 in
set_option maxHeartbeats 4000000 in
theorem st_asked (E : jD) (ad ma : Nat → Nat) (C M : va_W) (hRel : Rel E ad ma C M)   : StepI E ad ma Y_X6_asked Y_X7_asked [.ref (ad 0)] [.ref (ma 0)] C M := by
  refine Rel_elim (P := fun C M => StepI E ad ma Y_X6_asked Y_X7_asked [.ref (ad 0)] [.ref (ma 0)] C M) hRel ?_
  intro ra ia fnd ask fm nr rr wd N nc f sh mm w pl H hp hq kw kn kf nd pa de sz fi mt md mi tw tb tn tf tsh tmm tws tpl thr ask2 rw0 it md0 mm2 ua uw kp kni kwi pi pd ab pal hA hR hX hK hF hask hmm
  have hn := iX_n hX
  refine ⟨iI (ask), (fun N0 => N0 = CW E ad ra ia fnd ask fm nr rr (wd : Int) ((nB N wd : Nat) : Int) nc f sh mm w pl ((List.length H : Nat) : Int) hp hq kw kn kf (nd : Int) pa de sz fi mt md mi tw tb tn tf tsh tmm tws tpl), (fun N0 => N0 = MW E ma 0 ask2 fnd fm nr rw0 (N : Int) (wd : Int) it md0 mm2 ua uw ((List.length H : Nat) : Int) kp kni kwi pi pd (nd : Int) ab pal), ?_, fun N0 h => by subst h; rfl, ?_, fun N0 h => by subst h; rfl, ?_⟩
  · refine (MC.frame (M := CW E ad ra ia fnd ask fm nr rr (wd : Int) ((nB N wd : Nat) : Int) nc f sh mm w pl ((List.length H : Nat) : Int) hp hq kw kn kf (nd : Int) pa de sz fi mt md mi tw tb tn tf tsh tmm tws tpl) [0] (c_X6_asked E (ad 0) (ad 1) (ad 17) (ad 24) (ad 10) (ad 27) (ad 42) fnd ask) rfl rfl (by rintro _ _ ⟨rfl, rfl⟩; rfl)).mono ?_
    rintro _ _ ⟨_, ⟨rfl, rfl⟩, rfl⟩
    exact ⟨rfl, rfl⟩
  · refine (MC.frame (M := MW E ma thr ask2 fnd fm nr rw0 (N : Int) (wd : Int) it md0 mm2 ua uw ((List.length H : Nat) : Int) kp kni kwi pi pd (nd : Int) ab pal) [0] (c_X7_asked E fnd ask2 (wd : Int) (N : Int) mm2 ((List.length H : Nat) : Int) (nd : Int) (ma 0) (ma 1) (ma 2) (ma 3) (ma 4) (ma 5) (ma 6) (ma 7) (ma 8) (ma 9) (ma 10) (ma 11) (ma 12) thr pd pal) rfl rfl (by rintro _ _ ⟨rfl, rfl⟩; rfl)).mono ?_
    rintro _ _ ⟨_, ⟨rfl, rfl⟩, rfl⟩
    exact ⟨congrArg (fun z => some (Value.int (iI z))) (hask.symm), rfl⟩
  · rintro _ _ rfl rfl
    exact ⟨ra, ia, fnd, ask, fm, nr, rr, wd, N, nc, f, sh, mm, w, pl, H, hp, hq, kw, kn, kf, nd, pa, de, sz, fi, mt, md, mi, tw, tb, tn, tf, tsh, tmm, tws, tpl, 0, ask2, rw0, it, md0, mm2, ua, uw, kp, kni, kwi, pi, pd, ab, pal, rfl, rfl, hA, hR, hX, hK, hF, hask, hmm⟩

set_option maxRecDepth 100000 in
set_option maxHeartbeats 4000000 in
theorem st_finding (E : jD) (ad ma : Nat → Nat) (C M : va_W) (hRel : Rel E ad ma C M)   : StepI E ad ma Y_X6_finding Y_X7_finding [.ref (ad 0)] [.ref (ma 0)] C M := by
  refine Rel_elim (P := fun C M => StepI E ad ma Y_X6_finding Y_X7_finding [.ref (ad 0)] [.ref (ma 0)] C M) hRel ?_
  intro ra ia fnd ask fm nr rr wd N nc f sh mm w pl H hp hq kw kn kf nd pa de sz fi mt md mi tw tb tn tf tsh tmm tws tpl thr ask2 rw0 it md0 mm2 ua uw kp kni kwi pi pd ab pal hA hR hX hK hF hask hmm
  have hn := iX_n hX
  refine ⟨iI (fnd), (fun N0 => N0 = CW E ad ra ia fnd ask fm nr rr (wd : Int) ((nB N wd : Nat) : Int) nc f sh mm w pl ((List.length H : Nat) : Int) hp hq kw kn kf (nd : Int) pa de sz fi mt md mi tw tb tn tf tsh tmm tws tpl), (fun N0 => N0 = MW E ma 0 ask2 fnd fm nr rw0 (N : Int) (wd : Int) it md0 mm2 ua uw ((List.length H : Nat) : Int) kp kni kwi pi pd (nd : Int) ab pal), ?_, fun N0 h => by subst h; rfl, ?_, fun N0 h => by subst h; rfl, ?_⟩
  · refine (MC.frame (M := CW E ad ra ia fnd ask fm nr rr (wd : Int) ((nB N wd : Nat) : Int) nc f sh mm w pl ((List.length H : Nat) : Int) hp hq kw kn kf (nd : Int) pa de sz fi mt md mi tw tb tn tf tsh tmm tws tpl) [0] (c_X6_finding E (ad 0) (ad 1) (ad 17) (ad 24) (ad 10) (ad 27) (ad 42) fnd ask) rfl rfl (by rintro _ _ ⟨rfl, rfl⟩; rfl)).mono ?_
    rintro _ _ ⟨_, ⟨rfl, rfl⟩, rfl⟩
    exact ⟨rfl, rfl⟩
  · refine (MC.frame (M := MW E ma thr ask2 fnd fm nr rw0 (N : Int) (wd : Int) it md0 mm2 ua uw ((List.length H : Nat) : Int) kp kni kwi pi pd (nd : Int) ab pal) [0] (c_X7_finding E fnd ask2 (wd : Int) (N : Int) mm2 ((List.length H : Nat) : Int) (nd : Int) (ma 0) (ma 1) (ma 2) (ma 3) (ma 4) (ma 5) (ma 6) (ma 7) (ma 8) (ma 9) (ma 10) (ma 11) (ma 12) thr pd pal) rfl rfl (by rintro _ _ ⟨rfl, rfl⟩; rfl)).mono ?_
    rintro _ _ ⟨_, ⟨rfl, rfl⟩, rfl⟩
    exact ⟨rfl, rfl⟩
  · rintro _ _ rfl rfl
    exact ⟨ra, ia, fnd, ask, fm, nr, rr, wd, N, nc, f, sh, mm, w, pl, H, hp, hq, kw, kn, kf, nd, pa, de, sz, fi, mt, md, mi, tw, tb, tn, tf, tsh, tmm, tws, tpl, 0, ask2, rw0, it, md0, mm2, ua, uw, kp, kni, kwi, pi, pd, ab, pal, rfl, rfl, hA, hR, hX, hK, hF, hask, hmm⟩

set_option maxRecDepth 100000 in
set_option maxHeartbeats 4000000 in
theorem st_findings (E : jD) (ad ma : Nat → Nat) (C M : va_W) (hRel : Rel E ad ma C M) (z1 : Int) (hz1 : jr z1) : StepI E ad ma Y_X6_findings Y_X7_findings [.ref (ad 0), .int (iI z1)] [.ref (ma 0), .int (iI z1)] C M := by
  refine Rel_elim (P := fun C M => StepI E ad ma Y_X6_findings Y_X7_findings [.ref (ad 0), .int (iI z1)] [.ref (ma 0), .int (iI z1)] C M) hRel ?_
  intro ra ia fnd ask fm nr rr wd N nc f sh mm w pl H hp hq kw kn kf nd pa de sz fi mt md mi tw tb tn tf tsh tmm tws tpl thr ask2 rw0 it md0 mm2 ua uw kp kni kwi pi pd ab pal hA hR hX hK hF hask hmm
  have hn := iX_n hX
  by_cases hok : 1 ≤ z1 ∧ z1 ≤ 4
  · obtain ⟨q, rfl⟩ : ∃ q : Nat, z1 = (q : Int) := ⟨z1.toNat, by omega⟩
    refine ⟨iI (fm q), (fun N0 => N0 = CW E ad ra ia fnd ask fm nr rr (wd : Int) ((nB N wd : Nat) : Int) nc f sh mm w pl ((List.length H : Nat) : Int) hp hq kw kn kf (nd : Int) pa de sz fi mt md mi tw tb tn tf tsh tmm tws tpl), (fun N0 => N0 = MW E ma 0 ask2 fnd fm nr rw0 (N : Int) (wd : Int) it md0 mm2 ua uw ((List.length H : Nat) : Int) kp kni kwi pi pd (nd : Int) ab pal), ?_, fun N0 h => by subst h; rfl, ?_, fun N0 h => by subst h; rfl, ?_⟩
    · refine (MC.frame (M := CW E ad ra ia fnd ask fm nr rr (wd : Int) ((nB N wd : Nat) : Int) nc f sh mm w pl ((List.length H : Nat) : Int) hp hq kw kn kf (nd : Int) pa de sz fi mt md mi tw tb tn tf tsh tmm tws tpl) [0, 42] (c_X6_findings_ok E (ad 0) (ad 1) (ad 17) (ad 24) (ad 10) (ad 27) (ad 42) fnd ask fm q (by omega)) rfl rfl (by rintro _ _ ⟨rfl, rfl⟩; rfl)).mono ?_
      rintro _ _ ⟨_, ⟨rfl, rfl⟩, rfl⟩
      exact ⟨rfl, rfl⟩
    · refine (MC.frame (M := MW E ma thr ask2 fnd fm nr rw0 (N : Int) (wd : Int) it md0 mm2 ua uw ((List.length H : Nat) : Int) kp kni kwi pi pd (nd : Int) ab pal) [0, 1] (c_X7_findings_ok E fnd ask2 (wd : Int) (N : Int) mm2 ((List.length H : Nat) : Int) (nd : Int) fm (ma 0) (ma 1) (ma 2) (ma 3) (ma 4) (ma 5) (ma 6) (ma 7) (ma 8) (ma 9) (ma 10) (ma 11) (ma 12) thr pd pal q (by omega)) rfl rfl (by rintro _ _ ⟨rfl, rfl⟩; rfl)).mono ?_
      rintro _ _ ⟨_, ⟨rfl, rfl⟩, rfl⟩
      exact ⟨rfl, rfl⟩
    · rintro _ _ rfl rfl
      exact ⟨ra, ia, fnd, ask, fm, nr, rr, wd, N, nc, f, sh, mm, w, pl, H, hp, hq, kw, kn, kf, nd, pa, de, sz, fi, mt, md, mi, tw, tb, tn, tf, tsh, tmm, tws, tpl, 0, ask2, rw0, it, md0, mm2, ua, uw, kp, kni, kwi, pi, pd, ab, pal, rfl, rfl, hA, hR, hX, hK, hF, hask, hmm⟩
  · refine ⟨iI (-1), (fun N0 => N0 = CW E ad ra ia fnd ask fm nr rr (wd : Int) ((nB N wd : Nat) : Int) nc f sh mm w pl ((List.length H : Nat) : Int) hp hq kw kn kf (nd : Int) pa de sz fi mt md mi tw tb tn tf tsh tmm tws tpl), (fun N0 => N0 = MW E ma 0 ask2 fnd fm nr rw0 (N : Int) (wd : Int) it md0 mm2 ua uw ((List.length H : Nat) : Int) kp kni kwi pi pd (nd : Int) ab pal), ?_, fun N0 h => by subst h; rfl, ?_, fun N0 h => by subst h; rfl, ?_⟩
    · refine (MC.frame (M := CW E ad ra ia fnd ask fm nr rr (wd : Int) ((nB N wd : Nat) : Int) nc f sh mm w pl ((List.length H : Nat) : Int) hp hq kw kn kf (nd : Int) pa de sz fi mt md mi tw tb tn tf tsh tmm tws tpl) [0] (c_X6_findings_bad E (ad 0) (ad 1) (ad 17) (ad 24) (ad 10) (ad 27) (ad 42) fnd ask z1 hz1 (by omega)) rfl rfl (by rintro _ _ ⟨rfl, rfl⟩; rfl)).mono ?_
      rintro _ _ ⟨_, ⟨rfl, rfl⟩, rfl⟩
      exact ⟨rfl, rfl⟩
    · refine (MC.frame (M := MW E ma thr ask2 fnd fm nr rw0 (N : Int) (wd : Int) it md0 mm2 ua uw ((List.length H : Nat) : Int) kp kni kwi pi pd (nd : Int) ab pal) [0] (c_X7_findings_bad E fnd ask2 (wd : Int) (N : Int) mm2 ((List.length H : Nat) : Int) (nd : Int) (ma 0) (ma 1) (ma 2) (ma 3) (ma 4) (ma 5) (ma 6) (ma 7) (ma 8) (ma 9) (ma 10) (ma 11) (ma 12) thr pd pal z1 hz1 (by omega)) rfl rfl (by rintro _ _ ⟨rfl, rfl⟩; rfl)).mono ?_
      rintro _ _ ⟨_, ⟨rfl, rfl⟩, rfl⟩
      exact ⟨rfl, rfl⟩
    · rintro _ _ rfl rfl
      exact ⟨ra, ia, fnd, ask, fm, nr, rr, wd, N, nc, f, sh, mm, w, pl, H, hp, hq, kw, kn, kf, nd, pa, de, sz, fi, mt, md, mi, tw, tb, tn, tf, tsh, tmm, tws, tpl, 0, ask2, rw0, it, md0, mm2, ua, uw, kp, kni, kwi, pi, pd, ab, pal, rfl, rfl, hA, hR, hX, hK, hF, hask, hmm⟩
