set_option maxRecDepth 100000 in
set_option maxHeartbeats 4000000 in
theorem st_item (E : jD) (ad ma : Nat → Nat) (C M : va_W) (hRel : Rel E ad ma C M) (z1 : Int) (hz1 : jr z1) : StepI E ad ma Y_X6_item Y_X7_item [.ref (ad 0), .int (iI z1)] [.ref (ma 0), .int (iI z1)] C M := by
  refine Rel_elim (P := fun C M => StepI E ad ma Y_X6_item Y_X7_item [.ref (ad 0), .int (iI z1)] [.ref (ma 0), .int (iI z1)] C M) hRel ?_
  intro ra ia fnd ask fm nr rr wd N nc f sh mm w pl H hp hq kw kn kf nd pa de sz fi mt md mi tw tb tn tf tsh tmm tws tpl thr ask2 rw0 it md0 mm2 ua uw kp kni kwi pi pd ab pal hA hR hX hK hF hask hmm
  have hn := iX_n hX
  by_cases hok : 1 ≤ N ∧ 0 ≤ z1 ∧ z1 < N
  · obtain ⟨i, rfl⟩ : ∃ q : Nat, z1 = (q : Int) := ⟨z1.toNat, by omega⟩
    have hi : i < N := by omega
    obtain ⟨rfl, hfk, hsh, hset, hos, hh1, hh2, hch⟩ := iX_y hX (by omega)
    have hg := tI_cg hfk
    refine ⟨iI (1), (fun N0 => N0 = CW E ad ra ia fnd (f i).toInt fm nr rr (wd : Int) ((nB N wd : Nat) : Int) (N : Int) f sh mm w pl ((List.length H : Nat) : Int) hp hq kw kn kf (nd : Int) pa de sz fi mt md mi tw tb tn tf tsh tmm tws tpl), (fun N0 => N0 = MW E ma 0 (it i).toInt fnd fm nr rw0 (N : Int) (wd : Int) it md0 mm2 ua uw ((List.length H : Nat) : Int) kp kni kwi pi pd (nd : Int) ab pal), ?_, fun N0 h => by subst h; rfl, ?_, fun N0 h => by subst h; rfl, ?_⟩
    · refine (MC.frame (M := CW E ad ra ia fnd ask fm nr rr (wd : Int) ((nB N wd : Nat) : Int) (N : Int) f sh mm w pl ((List.length H : Nat) : Int) hp hq kw kn kf (nd : Int) pa de sz fi mt md mi tw tb tn tf tsh tmm tws tpl) [0, 42, 17, 18, 19] (c_X6_item_ok E (ad 0) (ad 1) (ad 17) (ad 24) (ad 10) (ad 27) (ad 42) (ad 18) (ad 19) (ad 20) (ad 21) (ad 23) fnd ask (wd : Int) ((nB N wd : Nat) : Int) fm f N i (by omega) hi) rfl rfl (by rintro _ _ ⟨rfl, rfl⟩; rfl)).mono ?_
      rintro _ _ ⟨_, ⟨rfl, rfl⟩, rfl⟩
      exact ⟨rfl, rfl⟩
    · refine (MC.frame (M := MW E ma thr ask2 fnd fm nr rw0 (N : Int) (wd : Int) it md0 mm2 ua uw ((List.length H : Nat) : Int) kp kni kwi pi pd (nd : Int) ab pal) [0, 4] (c_X7_item_ok E fnd ask2 (wd : Int) mm2 ((List.length H : Nat) : Int) (nd : Int) (ma 0) (ma 1) (ma 2) (ma 3) (ma 4) (ma 5) (ma 6) (ma 7) (ma 8) (ma 9) (ma 10) (ma 11) (ma 12) thr pd pal it N i (by omega) hi) rfl rfl (by rintro _ _ ⟨rfl, rfl⟩; rfl)).mono ?_
      rintro _ _ ⟨_, ⟨rfl, rfl⟩, rfl⟩
      exact ⟨rfl, rfl⟩
    · rintro _ _ rfl rfl
      exact ⟨ra, ia, fnd, (f i).toInt, fm, nr, rr, wd, N, (N : Int), f, sh, mm, w, pl, H, hp, hq, kw, kn, kf, nd, pa, de, sz, fi, mt, md, mi, tw, tb, tn, tf, tsh, tmm, tws, tpl, 0, (it i).toInt, rw0, it, md0, mm2, ua, uw, kp, kni, kwi, pi, pd, ab, pal, rfl, rfl, hA, hR, hX, hK, hF, (hg i hi), hmm⟩
  · obtain ⟨c, hc⟩ : ∃ c : Int, (N = 0 ∧ c = -2) ∨ (1 ≤ N ∧ (z1 < 0 ∨ (N : Int) ≤ z1) ∧ c = 2) := by
      by_cases h0 : N = 0
      · exact ⟨-2, Or.inl ⟨h0, rfl⟩⟩
      · exact ⟨2, Or.inr ⟨by omega, by omega, rfl⟩⟩
    refine ⟨iI (rz c), (fun N0 => N0 = CW E ad ra ia (rf c fnd) ask (rm c fm) nr rr (wd : Int) ((nB N wd : Nat) : Int) nc f sh mm w pl ((List.length H : Nat) : Int) hp hq kw kn kf (nd : Int) pa de sz fi mt md mi tw tb tn tf tsh tmm tws tpl), (fun N0 => N0 = MW E ma 0 ask2 (rf c fnd) (rm c fm) nr rw0 (N : Int) (wd : Int) it md0 mm2 ua uw ((List.length H : Nat) : Int) kp kni kwi pi pd (nd : Int) ab pal), ?_, fun N0 h => by subst h; rfl, ?_, fun N0 h => by subst h; rfl, ?_⟩
    · refine (MC.frame (M := CW E ad ra ia fnd ask fm nr rr (wd : Int) ((nB N wd : Nat) : Int) nc f sh mm w pl ((List.length H : Nat) : Int) hp hq kw kn kf (nd : Int) pa de sz fi mt md mi tw tb tn tf tsh tmm tws tpl) [0, 42, 17, 18] (c_X6_item_no E (ad 0) (ad 1) (ad 17) (ad 24) (ad 10) (ad 27) (ad 42) (ad 18) (ad 19) (ad 20) (ad 21) (ad 23) fnd ask (wd : Int) ((nB N wd : Nat) : Int) nc fm z1 c (by omega) hz1 (by omega)) rfl rfl (by rintro _ _ ⟨rfl, rfl⟩; rfl)).mono ?_
      rintro _ _ ⟨_, ⟨rfl, rfl⟩, rfl⟩
      exact ⟨rfl, rfl⟩
    · refine (MC.frame (M := MW E ma thr ask2 fnd fm nr rw0 (N : Int) (wd : Int) it md0 mm2 ua uw ((List.length H : Nat) : Int) kp kni kwi pi pd (nd : Int) ab pal) [0, 1] (c_X7_item_no E fnd ask2 (wd : Int) (N : Int) mm2 ((List.length H : Nat) : Int) (nd : Int) fm (ma 0) (ma 1) (ma 2) (ma 3) (ma 4) (ma 5) (ma 6) (ma 7) (ma 8) (ma 9) (ma 10) (ma 11) (ma 12) thr pd pal z1 c (by omega) hz1 (by omega)) rfl rfl (by rintro _ _ ⟨rfl, rfl⟩; rfl)).mono ?_
      rintro _ _ ⟨_, ⟨rfl, rfl⟩, rfl⟩
      exact ⟨rfl, rfl⟩
    · rintro _ _ rfl rfl
      exact ⟨ra, ia, (rf c fnd), ask, (rm c fm), nr, rr, wd, N, nc, f, sh, mm, w, pl, H, hp, hq, kw, kn, kf, nd, pa, de, sz, fi, mt, md, mi, tw, tb, tn, tf, tsh, tmm, tws, tpl, 0, ask2, rw0, it, md0, mm2, ua, uw, kp, kni, kwi, pi, pd, ab, pal, rfl, rfl, hA, hR, hX, hK, hF, hask, hmm⟩

set_option maxRecDepth 100000 in
set_option maxHeartbeats 4000000 in
theorem st_left (E : jD) (ad ma : Nat → Nat) (C M : va_W) (hRel : Rel E ad ma C M) (z1 : Int) (hz1 : jr z1) : StepI E ad ma Y_X6_left Y_X7_left [.ref (ad 0), .int (iI z1)] [.ref (ma 0), .int (iI z1)] C M := by
  refine Rel_elim (P := fun C M => StepI E ad ma Y_X6_left Y_X7_left [.ref (ad 0), .int (iI z1)] [.ref (ma 0), .int (iI z1)] C M) hRel ?_
  intro ra ia fnd ask fm nr rr wd N nc f sh mm w pl H hp hq kw kn kf nd pa de sz fi mt md mi tw tb tn tf tsh tmm tws tpl thr ask2 rw0 it md0 mm2 ua uw kp kni kwi pi pd ab pal hA hR hX hK hF hask hmm
  have hn := iX_n hX
  by_cases hok : 1 ≤ N ∧ 0 ≤ z1 ∧ z1 < N
  · obtain ⟨i, rfl⟩ : ∃ q : Nat, z1 = (q : Int) := ⟨z1.toNat, by omega⟩
    have hi : i < N := by omega
    obtain ⟨rfl, hfk, hsh, hset, hos, hh1, hh2, hch⟩ := iX_y hX (by omega)
    have hg := tI_cg hfk
    refine ⟨iI ((if lfE (tI f) i < 0 then -9 else lfE (tI f) i)), (fun N0 => N0 = CW E ad ra ia fnd ask fm nr rr (wd : Int) ((nB N wd : Nat) : Int) (N : Int) f sh mm w pl ((List.length H : Nat) : Int) hp hq kw kn kf (nd : Int) pa de sz fi mt md mi tw tb tn tf tsh tmm tws tpl), (fun N0 => N0 = MW E ma 0 ask2 fnd fm nr rw0 (N : Int) (wd : Int) it md0 mm2 ua uw ((List.length H : Nat) : Int) kp kni kwi pi pd (nd : Int) ab pal), ?_, fun N0 h => by subst h; rfl, ?_, fun N0 h => by subst h; rfl, ?_⟩
    · refine (MC.frame (M := CW E ad ra ia fnd ask fm nr rr (wd : Int) ((nB N wd : Nat) : Int) (N : Int) f sh mm w pl ((List.length H : Nat) : Int) hp hq kw kn kf (nd : Int) pa de sz fi mt md mi tw tb tn tf tsh tmm tws tpl) [0, 42, 17, 18, 19] (c_X6_left_ok E (ad 0) (ad 1) (ad 17) (ad 24) (ad 10) (ad 27) (ad 42) (ad 18) (ad 19) (ad 20) (ad 21) (ad 23) fnd ask (wd : Int) ((nB N wd : Nat) : Int) fm f N i (by omega) hi) rfl rfl (by rintro _ _ ⟨rfl, rfl⟩; rfl)).mono ?_
      rintro _ _ ⟨_, ⟨rfl, rfl⟩, rfl⟩
      exact ⟨rfl, rfl⟩
    · refine (MC.frame (M := MW E ma thr ask2 fnd fm nr rw0 (N : Int) (wd : Int) it md0 mm2 ua uw ((List.length H : Nat) : Int) kp kni kwi pi pd (nd : Int) ab pal) [0, 4] (c_X7_left_ok E fnd ask2 (wd : Int) mm2 ((List.length H : Nat) : Int) (nd : Int) (ma 0) (ma 1) (ma 2) (ma 3) (ma 4) (ma 5) (ma 6) (ma 7) (ma 8) (ma 9) (ma 10) (ma 11) (ma 12) thr pd pal it N i (by omega) hi) rfl rfl (by rintro _ _ ⟨rfl, rfl⟩; rfl)).mono ?_
      rintro _ _ ⟨_, ⟨rfl, rfl⟩, rfl⟩
      exact ⟨congrArg (fun z => some (Value.int (iI z))) (by rw [lfE_cg hg hi]), rfl⟩
    · rintro _ _ rfl rfl
      exact ⟨ra, ia, fnd, ask, fm, nr, rr, wd, N, (N : Int), f, sh, mm, w, pl, H, hp, hq, kw, kn, kf, nd, pa, de, sz, fi, mt, md, mi, tw, tb, tn, tf, tsh, tmm, tws, tpl, 0, ask2, rw0, it, md0, mm2, ua, uw, kp, kni, kwi, pi, pd, ab, pal, rfl, rfl, hA, hR, hX, hK, hF, hask, hmm⟩
  · obtain ⟨c, hc⟩ : ∃ c : Int, (N = 0 ∧ c = -2) ∨ (1 ≤ N ∧ (z1 < 0 ∨ (N : Int) ≤ z1) ∧ c = 2) := by
      by_cases h0 : N = 0
      · exact ⟨-2, Or.inl ⟨h0, rfl⟩⟩
      · exact ⟨2, Or.inr ⟨by omega, by omega, rfl⟩⟩
    refine ⟨iI (rz c), (fun N0 => N0 = CW E ad ra ia (rf c fnd) ask (rm c fm) nr rr (wd : Int) ((nB N wd : Nat) : Int) nc f sh mm w pl ((List.length H : Nat) : Int) hp hq kw kn kf (nd : Int) pa de sz fi mt md mi tw tb tn tf tsh tmm tws tpl), (fun N0 => N0 = MW E ma 0 ask2 (rf c fnd) (rm c fm) nr rw0 (N : Int) (wd : Int) it md0 mm2 ua uw ((List.length H : Nat) : Int) kp kni kwi pi pd (nd : Int) ab pal), ?_, fun N0 h => by subst h; rfl, ?_, fun N0 h => by subst h; rfl, ?_⟩
    · refine (MC.frame (M := CW E ad ra ia fnd ask fm nr rr (wd : Int) ((nB N wd : Nat) : Int) nc f sh mm w pl ((List.length H : Nat) : Int) hp hq kw kn kf (nd : Int) pa de sz fi mt md mi tw tb tn tf tsh tmm tws tpl) [0, 42, 17, 18] (c_X6_left_no E (ad 0) (ad 1) (ad 17) (ad 24) (ad 10) (ad 27) (ad 42) (ad 18) (ad 19) (ad 20) (ad 21) (ad 23) fnd ask (wd : Int) ((nB N wd : Nat) : Int) nc fm z1 c (by omega) hz1 (by omega)) rfl rfl (by rintro _ _ ⟨rfl, rfl⟩; rfl)).mono ?_
      rintro _ _ ⟨_, ⟨rfl, rfl⟩, rfl⟩
      exact ⟨rfl, rfl⟩
    · refine (MC.frame (M := MW E ma thr ask2 fnd fm nr rw0 (N : Int) (wd : Int) it md0 mm2 ua uw ((List.length H : Nat) : Int) kp kni kwi pi pd (nd : Int) ab pal) [0, 1] (c_X7_left_no E fnd ask2 (wd : Int) (N : Int) mm2 ((List.length H : Nat) : Int) (nd : Int) fm (ma 0) (ma 1) (ma 2) (ma 3) (ma 4) (ma 5) (ma 6) (ma 7) (ma 8) (ma 9) (ma 10) (ma 11) (ma 12) thr pd pal z1 c (by omega) hz1 (by omega)) rfl rfl (by rintro _ _ ⟨rfl, rfl⟩; rfl)).mono ?_
      rintro _ _ ⟨_, ⟨rfl, rfl⟩, rfl⟩
      exact ⟨rfl, rfl⟩
    · rintro _ _ rfl rfl
      exact ⟨ra, ia, (rf c fnd), ask, (rm c fm), nr, rr, wd, N, nc, f, sh, mm, w, pl, H, hp, hq, kw, kn, kf, nd, pa, de, sz, fi, mt, md, mi, tw, tb, tn, tf, tsh, tmm, tws, tpl, 0, ask2, rw0, it, md0, mm2, ua, uw, kp, kni, kwi, pi, pd, ab, pal, rfl, rfl, hA, hR, hX, hK, hF, hask, hmm⟩

set_option maxRecDepth 100000 in
set_option maxHeartbeats 4000000 in
theorem st_right (E : jD) (ad ma : Nat → Nat) (C M : va_W) (hRel : Rel E ad ma C M) (z1 : Int) (hz1 : jr z1) : StepI E ad ma Y_X6_right Y_X7_right [.ref (ad 0), .int (iI z1)] [.ref (ma 0), .int (iI z1)] C M := by
  refine Rel_elim (P := fun C M => StepI E ad ma Y_X6_right Y_X7_right [.ref (ad 0), .int (iI z1)] [.ref (ma 0), .int (iI z1)] C M) hRel ?_
  intro ra ia fnd ask fm nr rr wd N nc f sh mm w pl H hp hq kw kn kf nd pa de sz fi mt md mi tw tb tn tf tsh tmm tws tpl thr ask2 rw0 it md0 mm2 ua uw kp kni kwi pi pd ab pal hA hR hX hK hF hask hmm
  have hn := iX_n hX
  by_cases hok : 1 ≤ N ∧ 0 ≤ z1 ∧ z1 < N
  · obtain ⟨i, rfl⟩ : ∃ q : Nat, z1 = (q : Int) := ⟨z1.toNat, by omega⟩
    have hi : i < N := by omega
    obtain ⟨rfl, hfk, hsh, hset, hos, hh1, hh2, hch⟩ := iX_y hX (by omega)
    have hg := tI_cg hfk
    refine ⟨iI ((if N ≤ rtE (tI f) N i then -9 else (rtE (tI f) N i : Int))), (fun N0 => N0 = CW E ad ra ia fnd ask fm nr rr (wd : Int) ((nB N wd : Nat) : Int) (N : Int) f sh mm w pl ((List.length H : Nat) : Int) hp hq kw kn kf (nd : Int) pa de sz fi mt md mi tw tb tn tf tsh tmm tws tpl), (fun N0 => N0 = MW E ma 0 ask2 fnd fm nr rw0 (N : Int) (wd : Int) it md0 mm2 ua uw ((List.length H : Nat) : Int) kp kni kwi pi pd (nd : Int) ab pal), ?_, fun N0 h => by subst h; rfl, ?_, fun N0 h => by subst h; rfl, ?_⟩
    · refine (MC.frame (M := CW E ad ra ia fnd ask fm nr rr (wd : Int) ((nB N wd : Nat) : Int) (N : Int) f sh mm w pl ((List.length H : Nat) : Int) hp hq kw kn kf (nd : Int) pa de sz fi mt md mi tw tb tn tf tsh tmm tws tpl) [0, 42, 17, 18, 19] (c_X6_right_ok E (ad 0) (ad 1) (ad 17) (ad 24) (ad 10) (ad 27) (ad 42) (ad 18) (ad 19) (ad 20) (ad 21) (ad 23) fnd ask (wd : Int) ((nB N wd : Nat) : Int) fm f N i (by omega) hi) rfl rfl (by rintro _ _ ⟨rfl, rfl⟩; rfl)).mono ?_
      rintro _ _ ⟨_, ⟨rfl, rfl⟩, rfl⟩
      exact ⟨rfl, rfl⟩
    · refine (MC.frame (M := MW E ma thr ask2 fnd fm nr rw0 (N : Int) (wd : Int) it md0 mm2 ua uw ((List.length H : Nat) : Int) kp kni kwi pi pd (nd : Int) ab pal) [0, 4] (c_X7_right_ok E fnd ask2 (wd : Int) mm2 ((List.length H : Nat) : Int) (nd : Int) (ma 0) (ma 1) (ma 2) (ma 3) (ma 4) (ma 5) (ma 6) (ma 7) (ma 8) (ma 9) (ma 10) (ma 11) (ma 12) thr pd pal it N i (by omega) hi) rfl rfl (by rintro _ _ ⟨rfl, rfl⟩; rfl)).mono ?_
      rintro _ _ ⟨_, ⟨rfl, rfl⟩, rfl⟩
      exact ⟨congrArg (fun z => some (Value.int (iI z))) (by rw [rtE_cg hg hi]), rfl⟩
    · rintro _ _ rfl rfl
      exact ⟨ra, ia, fnd, ask, fm, nr, rr, wd, N, (N : Int), f, sh, mm, w, pl, H, hp, hq, kw, kn, kf, nd, pa, de, sz, fi, mt, md, mi, tw, tb, tn, tf, tsh, tmm, tws, tpl, 0, ask2, rw0, it, md0, mm2, ua, uw, kp, kni, kwi, pi, pd, ab, pal, rfl, rfl, hA, hR, hX, hK, hF, hask, hmm⟩
  · obtain ⟨c, hc⟩ : ∃ c : Int, (N = 0 ∧ c = -2) ∨ (1 ≤ N ∧ (z1 < 0 ∨ (N : Int) ≤ z1) ∧ c = 2) := by
      by_cases h0 : N = 0
      · exact ⟨-2, Or.inl ⟨h0, rfl⟩⟩
      · exact ⟨2, Or.inr ⟨by omega, by omega, rfl⟩⟩
    refine ⟨iI (rz c), (fun N0 => N0 = CW E ad ra ia (rf c fnd) ask (rm c fm) nr rr (wd : Int) ((nB N wd : Nat) : Int) nc f sh mm w pl ((List.length H : Nat) : Int) hp hq kw kn kf (nd : Int) pa de sz fi mt md mi tw tb tn tf tsh tmm tws tpl), (fun N0 => N0 = MW E ma 0 ask2 (rf c fnd) (rm c fm) nr rw0 (N : Int) (wd : Int) it md0 mm2 ua uw ((List.length H : Nat) : Int) kp kni kwi pi pd (nd : Int) ab pal), ?_, fun N0 h => by subst h; rfl, ?_, fun N0 h => by subst h; rfl, ?_⟩
    · refine (MC.frame (M := CW E ad ra ia fnd ask fm nr rr (wd : Int) ((nB N wd : Nat) : Int) nc f sh mm w pl ((List.length H : Nat) : Int) hp hq kw kn kf (nd : Int) pa de sz fi mt md mi tw tb tn tf tsh tmm tws tpl) [0, 42, 17, 18] (c_X6_right_no E (ad 0) (ad 1) (ad 17) (ad 24) (ad 10) (ad 27) (ad 42) (ad 18) (ad 19) (ad 20) (ad 21) (ad 23) fnd ask (wd : Int) ((nB N wd : Nat) : Int) nc fm z1 c (by omega) hz1 (by omega)) rfl rfl (by rintro _ _ ⟨rfl, rfl⟩; rfl)).mono ?_
      rintro _ _ ⟨_, ⟨rfl, rfl⟩, rfl⟩
      exact ⟨rfl, rfl⟩
    · refine (MC.frame (M := MW E ma thr ask2 fnd fm nr rw0 (N : Int) (wd : Int) it md0 mm2 ua uw ((List.length H : Nat) : Int) kp kni kwi pi pd (nd : Int) ab pal) [0, 1] (c_X7_right_no E fnd ask2 (wd : Int) (N : Int) mm2 ((List.length H : Nat) : Int) (nd : Int) fm (ma 0) (ma 1) (ma 2) (ma 3) (ma 4) (ma 5) (ma 6) (ma 7) (ma 8) (ma 9) (ma 10) (ma 11) (ma 12) thr pd pal z1 c (by omega) hz1 (by omega)) rfl rfl (by rintro _ _ ⟨rfl, rfl⟩; rfl)).mono ?_
      rintro _ _ ⟨_, ⟨rfl, rfl⟩, rfl⟩
      exact ⟨rfl, rfl⟩
    · rintro _ _ rfl rfl
      exact ⟨ra, ia, (rf c fnd), ask, (rm c fm), nr, rr, wd, N, nc, f, sh, mm, w, pl, H, hp, hq, kw, kn, kf, nd, pa, de, sz, fi, mt, md, mi, tw, tb, tn, tf, tsh, tmm, tws, tpl, 0, ask2, rw0, it, md0, mm2, ua, uw, kp, kni, kwi, pi, pd, ab, pal, rfl, rfl, hA, hR, hX, hK, hF, hask, hmm⟩

set_option maxRecDepth 100000 in
set_option maxHeartbeats 4000000 in
theorem st_owns (E : jD) (ad ma : Nat → Nat) (C M : va_W) (hRel : Rel E ad ma C M) (z1 : Int) (hz1 : jr z1) : StepI E ad ma Y_X6_owns Y_X7_owns [.ref (ad 0), .int (iI z1)] [.ref (ma 0), .int (iI z1)] C M := by
  refine Rel_elim (P := fun C M => StepI E ad ma Y_X6_owns Y_X7_owns [.ref (ad 0), .int (iI z1)] [.ref (ma 0), .int (iI z1)] C M) hRel ?_
  intro ra ia fnd ask fm nr rr wd N nc f sh mm w pl H hp hq kw kn kf nd pa de sz fi mt md mi tw tb tn tf tsh tmm tws tpl thr ask2 rw0 it md0 mm2 ua uw kp kni kwi pi pd ab pal hA hR hX hK hF hask hmm
  have hn := iX_n hX
  by_cases hok : 1 ≤ N ∧ 0 ≤ z1 ∧ z1 < N
  · obtain ⟨i, rfl⟩ : ∃ q : Nat, z1 = (q : Int) := ⟨z1.toNat, by omega⟩
    have hi : i < N := by omega
    obtain ⟨rfl, hfk, hsh, hset, hos, hh1, hh2, hch⟩ := iX_y hX (by omega)
    have hg := tI_cg hfk
    refine ⟨iI (ownF (tI f) N i), (fun N0 => N0 = CW E ad ra ia fnd ask fm nr rr (wd : Int) ((nB N wd : Nat) : Int) (N : Int) f sh mm w pl ((List.length H : Nat) : Int) hp hq kw kn kf (nd : Int) pa de sz fi mt md mi tw tb tn tf tsh tmm tws tpl), (fun N0 => N0 = MW E ma 0 ask2 fnd fm nr rw0 (N : Int) (wd : Int) it md0 mm2 ua uw ((List.length H : Nat) : Int) kp kni kwi pi pd (nd : Int) ab pal), ?_, fun N0 h => by subst h; rfl, ?_, fun N0 h => by subst h; rfl, ?_⟩
    · refine (MC.frame (M := CW E ad ra ia fnd ask fm nr rr (wd : Int) ((nB N wd : Nat) : Int) (N : Int) f sh mm w pl ((List.length H : Nat) : Int) hp hq kw kn kf (nd : Int) pa de sz fi mt md mi tw tb tn tf tsh tmm tws tpl) [0, 42, 17, 18, 19] (c_X6_owns_ok E (ad 0) (ad 1) (ad 17) (ad 24) (ad 10) (ad 27) (ad 42) (ad 18) (ad 19) (ad 20) (ad 21) (ad 23) fnd ask (wd : Int) ((nB N wd : Nat) : Int) fm f N i (by omega) hi) rfl rfl (by rintro _ _ ⟨rfl, rfl⟩; rfl)).mono ?_
      rintro _ _ ⟨_, ⟨rfl, rfl⟩, rfl⟩
      exact ⟨rfl, rfl⟩
    · refine (MC.frame (M := MW E ma thr ask2 fnd fm nr rw0 (N : Int) (wd : Int) it md0 mm2 ua uw ((List.length H : Nat) : Int) kp kni kwi pi pd (nd : Int) ab pal) [0, 4] (c_X7_owns_ok E fnd ask2 (wd : Int) mm2 ((List.length H : Nat) : Int) (nd : Int) (ma 0) (ma 1) (ma 2) (ma 3) (ma 4) (ma 5) (ma 6) (ma 7) (ma 8) (ma 9) (ma 10) (ma 11) (ma 12) thr pd pal it N i (by omega) hi) rfl rfl (by rintro _ _ ⟨rfl, rfl⟩; rfl)).mono ?_
      rintro _ _ ⟨_, ⟨rfl, rfl⟩, rfl⟩
      exact ⟨congrArg (fun z => some (Value.int (iI z))) ((ownF_cg hg hi).symm), rfl⟩
    · rintro _ _ rfl rfl
      exact ⟨ra, ia, fnd, ask, fm, nr, rr, wd, N, (N : Int), f, sh, mm, w, pl, H, hp, hq, kw, kn, kf, nd, pa, de, sz, fi, mt, md, mi, tw, tb, tn, tf, tsh, tmm, tws, tpl, 0, ask2, rw0, it, md0, mm2, ua, uw, kp, kni, kwi, pi, pd, ab, pal, rfl, rfl, hA, hR, hX, hK, hF, hask, hmm⟩
  · obtain ⟨c, hc⟩ : ∃ c : Int, (N = 0 ∧ c = -2) ∨ (1 ≤ N ∧ (z1 < 0 ∨ (N : Int) ≤ z1) ∧ c = 2) := by
      by_cases h0 : N = 0
      · exact ⟨-2, Or.inl ⟨h0, rfl⟩⟩
      · exact ⟨2, Or.inr ⟨by omega, by omega, rfl⟩⟩
    refine ⟨iI (rz c), (fun N0 => N0 = CW E ad ra ia (rf c fnd) ask (rm c fm) nr rr (wd : Int) ((nB N wd : Nat) : Int) nc f sh mm w pl ((List.length H : Nat) : Int) hp hq kw kn kf (nd : Int) pa de sz fi mt md mi tw tb tn tf tsh tmm tws tpl), (fun N0 => N0 = MW E ma 0 ask2 (rf c fnd) (rm c fm) nr rw0 (N : Int) (wd : Int) it md0 mm2 ua uw ((List.length H : Nat) : Int) kp kni kwi pi pd (nd : Int) ab pal), ?_, fun N0 h => by subst h; rfl, ?_, fun N0 h => by subst h; rfl, ?_⟩
    · refine (MC.frame (M := CW E ad ra ia fnd ask fm nr rr (wd : Int) ((nB N wd : Nat) : Int) nc f sh mm w pl ((List.length H : Nat) : Int) hp hq kw kn kf (nd : Int) pa de sz fi mt md mi tw tb tn tf tsh tmm tws tpl) [0, 42, 17, 18] (c_X6_owns_no E (ad 0) (ad 1) (ad 17) (ad 24) (ad 10) (ad 27) (ad 42) (ad 18) (ad 19) (ad 20) (ad 21) (ad 23) fnd ask (wd : Int) ((nB N wd : Nat) : Int) nc fm z1 c (by omega) hz1 (by omega)) rfl rfl (by rintro _ _ ⟨rfl, rfl⟩; rfl)).mono ?_
      rintro _ _ ⟨_, ⟨rfl, rfl⟩, rfl⟩
      exact ⟨rfl, rfl⟩
    · refine (MC.frame (M := MW E ma thr ask2 fnd fm nr rw0 (N : Int) (wd : Int) it md0 mm2 ua uw ((List.length H : Nat) : Int) kp kni kwi pi pd (nd : Int) ab pal) [0, 1] (c_X7_owns_no E fnd ask2 (wd : Int) (N : Int) mm2 ((List.length H : Nat) : Int) (nd : Int) fm (ma 0) (ma 1) (ma 2) (ma 3) (ma 4) (ma 5) (ma 6) (ma 7) (ma 8) (ma 9) (ma 10) (ma 11) (ma 12) thr pd pal z1 c (by omega) hz1 (by omega)) rfl rfl (by rintro _ _ ⟨rfl, rfl⟩; rfl)).mono ?_
      rintro _ _ ⟨_, ⟨rfl, rfl⟩, rfl⟩
      exact ⟨rfl, rfl⟩
    · rintro _ _ rfl rfl
      exact ⟨ra, ia, (rf c fnd), ask, (rm c fm), nr, rr, wd, N, nc, f, sh, mm, w, pl, H, hp, hq, kw, kn, kf, nd, pa, de, sz, fi, mt, md, mi, tw, tb, tn, tf, tsh, tmm, tws, tpl, 0, ask2, rw0, it, md0, mm2, ua, uw, kp, kni, kwi, pi, pd, ab, pal, rfl, rfl, hA, hR, hX, hK, hF, hask, hmm⟩

set_option maxRecDepth 100000 in
set_option maxHeartbeats 4000000 in
theorem st_size (E : jD) (ad ma : Nat → Nat) (C M : va_W) (hRel : Rel E ad ma C M) (z1 : Int) (hz1 : jr z1) : StepI E ad ma Y_X6_size Y_X7_size [.ref (ad 0), .int (iI z1)] [.ref (ma 0), .int (iI z1)] C M := by
  refine Rel_elim (P := fun C M => StepI E ad ma Y_X6_size Y_X7_size [.ref (ad 0), .int (iI z1)] [.ref (ma 0), .int (iI z1)] C M) hRel ?_
  intro ra ia fnd ask fm nr rr wd N nc f sh mm w pl H hp hq kw kn kf nd pa de sz fi mt md mi tw tb tn tf tsh tmm tws tpl thr ask2 rw0 it md0 mm2 ua uw kp kni kwi pi pd ab pal hA hR hX hK hF hask hmm
  have hn := iX_n hX
  by_cases hok : 1 ≤ N ∧ 0 ≤ z1 ∧ z1 < N
  · obtain ⟨i, rfl⟩ : ∃ q : Nat, z1 = (q : Int) := ⟨z1.toNat, by omega⟩
    have hi : i < N := by omega
    obtain ⟨rfl, hfk, hsh, hset, hos, hh1, hh2, hch⟩ := iX_y hX (by omega)
    have hg := tI_cg hfk
    refine ⟨iI ((rtE (tI f) N i : Int) - lfE (tI f) i - 1), (fun N0 => N0 = CW E ad ra ia fnd ask fm nr rr (wd : Int) ((nB N wd : Nat) : Int) (N : Int) f sh mm w pl ((List.length H : Nat) : Int) hp hq kw kn kf (nd : Int) pa de sz fi mt md mi tw tb tn tf tsh tmm tws tpl), (fun N0 => N0 = MW E ma 0 ask2 fnd fm nr rw0 (N : Int) (wd : Int) it md0 mm2 ua uw ((List.length H : Nat) : Int) kp kni kwi pi pd (nd : Int) ab pal), ?_, fun N0 h => by subst h; rfl, ?_, fun N0 h => by subst h; rfl, ?_⟩
    · refine (MC.frame (M := CW E ad ra ia fnd ask fm nr rr (wd : Int) ((nB N wd : Nat) : Int) (N : Int) f sh mm w pl ((List.length H : Nat) : Int) hp hq kw kn kf (nd : Int) pa de sz fi mt md mi tw tb tn tf tsh tmm tws tpl) [0, 42, 17, 18, 19] (c_X6_size_ok E (ad 0) (ad 1) (ad 17) (ad 24) (ad 10) (ad 27) (ad 42) (ad 18) (ad 19) (ad 20) (ad 21) (ad 23) fnd ask (wd : Int) ((nB N wd : Nat) : Int) fm f N i (by omega) hi) rfl rfl (by rintro _ _ ⟨rfl, rfl⟩; rfl)).mono ?_
      rintro _ _ ⟨_, ⟨rfl, rfl⟩, rfl⟩
      exact ⟨rfl, rfl⟩
    · refine (MC.frame (M := MW E ma thr ask2 fnd fm nr rw0 (N : Int) (wd : Int) it md0 mm2 ua uw ((List.length H : Nat) : Int) kp kni kwi pi pd (nd : Int) ab pal) [0, 4] (c_X7_size_ok E fnd ask2 (wd : Int) mm2 ((List.length H : Nat) : Int) (nd : Int) (ma 0) (ma 1) (ma 2) (ma 3) (ma 4) (ma 5) (ma 6) (ma 7) (ma 8) (ma 9) (ma 10) (ma 11) (ma 12) thr pd pal it N i (by omega) hi) rfl rfl (by rintro _ _ ⟨rfl, rfl⟩; rfl)).mono ?_
      rintro _ _ ⟨_, ⟨rfl, rfl⟩, rfl⟩
      exact ⟨congrArg (fun z => some (Value.int (iI z))) (by rw [rtE_cg hg hi, lfE_cg hg hi]), rfl⟩
    · rintro _ _ rfl rfl
      exact ⟨ra, ia, fnd, ask, fm, nr, rr, wd, N, (N : Int), f, sh, mm, w, pl, H, hp, hq, kw, kn, kf, nd, pa, de, sz, fi, mt, md, mi, tw, tb, tn, tf, tsh, tmm, tws, tpl, 0, ask2, rw0, it, md0, mm2, ua, uw, kp, kni, kwi, pi, pd, ab, pal, rfl, rfl, hA, hR, hX, hK, hF, hask, hmm⟩
  · obtain ⟨c, hc⟩ : ∃ c : Int, (N = 0 ∧ c = -2) ∨ (1 ≤ N ∧ (z1 < 0 ∨ (N : Int) ≤ z1) ∧ c = 2) := by
      by_cases h0 : N = 0
      · exact ⟨-2, Or.inl ⟨h0, rfl⟩⟩
      · exact ⟨2, Or.inr ⟨by omega, by omega, rfl⟩⟩
    refine ⟨iI (rz c), (fun N0 => N0 = CW E ad ra ia (rf c fnd) ask (rm c fm) nr rr (wd : Int) ((nB N wd : Nat) : Int) nc f sh mm w pl ((List.length H : Nat) : Int) hp hq kw kn kf (nd : Int) pa de sz fi mt md mi tw tb tn tf tsh tmm tws tpl), (fun N0 => N0 = MW E ma 0 ask2 (rf c fnd) (rm c fm) nr rw0 (N : Int) (wd : Int) it md0 mm2 ua uw ((List.length H : Nat) : Int) kp kni kwi pi pd (nd : Int) ab pal), ?_, fun N0 h => by subst h; rfl, ?_, fun N0 h => by subst h; rfl, ?_⟩
    · refine (MC.frame (M := CW E ad ra ia fnd ask fm nr rr (wd : Int) ((nB N wd : Nat) : Int) nc f sh mm w pl ((List.length H : Nat) : Int) hp hq kw kn kf (nd : Int) pa de sz fi mt md mi tw tb tn tf tsh tmm tws tpl) [0, 42, 17, 18] (c_X6_size_no E (ad 0) (ad 1) (ad 17) (ad 24) (ad 10) (ad 27) (ad 42) (ad 18) (ad 19) (ad 20) (ad 21) (ad 23) fnd ask (wd : Int) ((nB N wd : Nat) : Int) nc fm z1 c (by omega) hz1 (by omega)) rfl rfl (by rintro _ _ ⟨rfl, rfl⟩; rfl)).mono ?_
      rintro _ _ ⟨_, ⟨rfl, rfl⟩, rfl⟩
      exact ⟨rfl, rfl⟩
    · refine (MC.frame (M := MW E ma thr ask2 fnd fm nr rw0 (N : Int) (wd : Int) it md0 mm2 ua uw ((List.length H : Nat) : Int) kp kni kwi pi pd (nd : Int) ab pal) [0, 1] (c_X7_size_no E fnd ask2 (wd : Int) (N : Int) mm2 ((List.length H : Nat) : Int) (nd : Int) fm (ma 0) (ma 1) (ma 2) (ma 3) (ma 4) (ma 5) (ma 6) (ma 7) (ma 8) (ma 9) (ma 10) (ma 11) (ma 12) thr pd pal z1 c (by omega) hz1 (by omega)) rfl rfl (by rintro _ _ ⟨rfl, rfl⟩; rfl)).mono ?_
      rintro _ _ ⟨_, ⟨rfl, rfl⟩, rfl⟩
      exact ⟨rfl, rfl⟩
    · rintro _ _ rfl rfl
      exact ⟨ra, ia, (rf c fnd), ask, (rm c fm), nr, rr, wd, N, nc, f, sh, mm, w, pl, H, hp, hq, kw, kn, kf, nd, pa, de, sz, fi, mt, md, mi, tw, tb, tn, tf, tsh, tmm, tws, tpl, 0, ask2, rw0, it, md0, mm2, ua, uw, kp, kni, kwi, pi, pd, ab, pal, rfl, rfl, hA, hR, hX, hK, hF, hask, hmm⟩

set_option maxRecDepth 100000 in
set_option maxHeartbeats 4000000 in
theorem st_parent (E : jD) (ad ma : Nat → Nat) (C M : va_W) (hRel : Rel E ad ma C M) (z1 : Int) (hz1 : jr z1) : StepI E ad ma Y_X6_parent Y_X7_parent [.ref (ad 0), .int (iI z1)] [.ref (ma 0), .int (iI z1)] C M := by
  refine Rel_elim (P := fun C M => StepI E ad ma Y_X6_parent Y_X7_parent [.ref (ad 0), .int (iI z1)] [.ref (ma 0), .int (iI z1)] C M) hRel ?_
  intro ra ia fnd ask fm nr rr wd N nc f sh mm w pl H hp hq kw kn kf nd pa de sz fi mt md mi tw tb tn tf tsh tmm tws tpl thr ask2 rw0 it md0 mm2 ua uw kp kni kwi pi pd ab pal hA hR hX hK hF hask hmm
  have hn := iX_n hX
  by_cases hok : 1 ≤ N ∧ 0 ≤ z1 ∧ z1 < N
  · obtain ⟨i, rfl⟩ : ∃ q : Nat, z1 = (q : Int) := ⟨z1.toNat, by omega⟩
    have hi : i < N := by omega
    obtain ⟨rfl, hfk, hsh, hset, hos, hh1, hh2, hch⟩ := iX_y hX (by omega)
    have hg := tI_cg hfk
    obtain ⟨d1, d2, d3⟩ := dm_top (tI it) hi
    refine ⟨iI (paF (tI f) N i), (fun N0 => N0 = CW E ad ra ia fnd ask fm nr rr (wd : Int) ((nB N wd : Nat) : Int) (N : Int) f sh mm w pl ((List.length H : Nat) : Int) hp hq kw kn kf (nd : Int) pa de sz fi mt md mi tw tb tn tf tsh tmm tws tpl), (fun N0 => N0 = MW E ma 0 ask2 fnd fm nr rw0 (N : Int) (wd : Int) it md0 mm2 ua uw ((List.length H : Nat) : Int) kp kni kwi pi pd (nd : Int) ab (dmF (tI it) i N 0 (N - 1) (0, -9)).2), ?_, fun N0 h => by subst h; rfl, ?_, fun N0 h => by subst h; rfl, ?_⟩
    · refine (MC.frame (M := CW E ad ra ia fnd ask fm nr rr (wd : Int) ((nB N wd : Nat) : Int) (N : Int) f sh mm w pl ((List.length H : Nat) : Int) hp hq kw kn kf (nd : Int) pa de sz fi mt md mi tw tb tn tf tsh tmm tws tpl) [0, 42, 17, 18, 19] (c_X6_parent_ok E (ad 0) (ad 1) (ad 17) (ad 24) (ad 10) (ad 27) (ad 42) (ad 18) (ad 19) (ad 20) (ad 21) (ad 23) fnd ask (wd : Int) ((nB N wd : Nat) : Int) fm f N i (by omega) hi) rfl rfl (by rintro _ _ ⟨rfl, rfl⟩; rfl)).mono ?_
      rintro _ _ ⟨_, ⟨rfl, rfl⟩, rfl⟩
      exact ⟨rfl, rfl⟩
    · refine (MC.frame (M := MW E ma thr ask2 fnd fm nr rw0 (N : Int) (wd : Int) it md0 mm2 ua uw ((List.length H : Nat) : Int) kp kni kwi pi pd (nd : Int) ab pal) [0, 4] (c_X7_parent_ok E fnd ask2 (wd : Int) mm2 ((List.length H : Nat) : Int) (nd : Int) (ma 0) (ma 1) (ma 2) (ma 3) (ma 4) (ma 5) (ma 6) (ma 7) (ma 8) (ma 9) (ma 10) (ma 11) (ma 12) thr pd pal it N i (by omega) hi) rfl rfl (by rintro _ _ ⟨rfl, rfl⟩; rfl)).mono ?_
      rintro _ _ ⟨_, ⟨rfl, rfl⟩, rfl⟩
      exact ⟨congrArg (fun z => some (Value.int (iI z))) (by rw [d1, paF_cg hg hi]), rfl⟩
    · rintro _ _ rfl rfl
      exact ⟨ra, ia, fnd, ask, fm, nr, rr, wd, N, (N : Int), f, sh, mm, w, pl, H, hp, hq, kw, kn, kf, nd, pa, de, sz, fi, mt, md, mi, tw, tb, tn, tf, tsh, tmm, tws, tpl, 0, ask2, rw0, it, md0, mm2, ua, uw, kp, kni, kwi, pi, pd, ab, (dmF (tI it) i N 0 (N - 1) (0, -9)).2, rfl, rfl, hA, hR, hX, hK, hF, hask, hmm⟩
  · obtain ⟨c, hc⟩ : ∃ c : Int, (N = 0 ∧ c = -2) ∨ (1 ≤ N ∧ (z1 < 0 ∨ (N : Int) ≤ z1) ∧ c = 2) := by
      by_cases h0 : N = 0
      · exact ⟨-2, Or.inl ⟨h0, rfl⟩⟩
      · exact ⟨2, Or.inr ⟨by omega, by omega, rfl⟩⟩
    refine ⟨iI (rz c), (fun N0 => N0 = CW E ad ra ia (rf c fnd) ask (rm c fm) nr rr (wd : Int) ((nB N wd : Nat) : Int) nc f sh mm w pl ((List.length H : Nat) : Int) hp hq kw kn kf (nd : Int) pa de sz fi mt md mi tw tb tn tf tsh tmm tws tpl), (fun N0 => N0 = MW E ma 0 ask2 (rf c fnd) (rm c fm) nr rw0 (N : Int) (wd : Int) it md0 mm2 ua uw ((List.length H : Nat) : Int) kp kni kwi pi pd (nd : Int) ab pal), ?_, fun N0 h => by subst h; rfl, ?_, fun N0 h => by subst h; rfl, ?_⟩
    · refine (MC.frame (M := CW E ad ra ia fnd ask fm nr rr (wd : Int) ((nB N wd : Nat) : Int) nc f sh mm w pl ((List.length H : Nat) : Int) hp hq kw kn kf (nd : Int) pa de sz fi mt md mi tw tb tn tf tsh tmm tws tpl) [0, 42, 17, 18] (c_X6_parent_no E (ad 0) (ad 1) (ad 17) (ad 24) (ad 10) (ad 27) (ad 42) (ad 18) (ad 19) (ad 20) (ad 21) (ad 23) fnd ask (wd : Int) ((nB N wd : Nat) : Int) nc fm z1 c (by omega) hz1 (by omega)) rfl rfl (by rintro _ _ ⟨rfl, rfl⟩; rfl)).mono ?_
      rintro _ _ ⟨_, ⟨rfl, rfl⟩, rfl⟩
      exact ⟨rfl, rfl⟩
    · refine (MC.frame (M := MW E ma thr ask2 fnd fm nr rw0 (N : Int) (wd : Int) it md0 mm2 ua uw ((List.length H : Nat) : Int) kp kni kwi pi pd (nd : Int) ab pal) [0, 1] (c_X7_parent_no E fnd ask2 (wd : Int) (N : Int) mm2 ((List.length H : Nat) : Int) (nd : Int) fm (ma 0) (ma 1) (ma 2) (ma 3) (ma 4) (ma 5) (ma 6) (ma 7) (ma 8) (ma 9) (ma 10) (ma 11) (ma 12) thr pd pal z1 c (by omega) hz1 (by omega)) rfl rfl (by rintro _ _ ⟨rfl, rfl⟩; rfl)).mono ?_
      rintro _ _ ⟨_, ⟨rfl, rfl⟩, rfl⟩
      exact ⟨rfl, rfl⟩
    · rintro _ _ rfl rfl
      exact ⟨ra, ia, (rf c fnd), ask, (rm c fm), nr, rr, wd, N, nc, f, sh, mm, w, pl, H, hp, hq, kw, kn, kf, nd, pa, de, sz, fi, mt, md, mi, tw, tb, tn, tf, tsh, tmm, tws, tpl, 0, ask2, rw0, it, md0, mm2, ua, uw, kp, kni, kwi, pi, pd, ab, pal, rfl, rfl, hA, hR, hX, hK, hF, hask, hmm⟩

set_option maxRecDepth 100000 in
set_option maxHeartbeats 4000000 in
theorem st_depth (E : jD) (ad ma : Nat → Nat) (C M : va_W) (hRel : Rel E ad ma C M) (z1 : Int) (hz1 : jr z1) : StepI E ad ma Y_X6_depth Y_X7_depth [.ref (ad 0), .int (iI z1)] [.ref (ma 0), .int (iI z1)] C M := by
  refine Rel_elim (P := fun C M => StepI E ad ma Y_X6_depth Y_X7_depth [.ref (ad 0), .int (iI z1)] [.ref (ma 0), .int (iI z1)] C M) hRel ?_
  intro ra ia fnd ask fm nr rr wd N nc f sh mm w pl H hp hq kw kn kf nd pa de sz fi mt md mi tw tb tn tf tsh tmm tws tpl thr ask2 rw0 it md0 mm2 ua uw kp kni kwi pi pd ab pal hA hR hX hK hF hask hmm
  have hn := iX_n hX
  by_cases hok : 1 ≤ N ∧ 0 ≤ z1 ∧ z1 < N
  · obtain ⟨i, rfl⟩ : ∃ q : Nat, z1 = (q : Int) := ⟨z1.toNat, by omega⟩
    have hi : i < N := by omega
    obtain ⟨rfl, hfk, hsh, hset, hos, hh1, hh2, hch⟩ := iX_y hX (by omega)
    have hg := tI_cg hfk
    obtain ⟨d1, d2, d3⟩ := dm_top (tI it) hi
    refine ⟨iI ((dpF (tI f) N N (paF (tI f) N i) : Nat)), (fun N0 => N0 = CW E ad ra ia fnd ask fm nr rr (wd : Int) ((nB N wd : Nat) : Int) (N : Int) f sh mm w pl ((List.length H : Nat) : Int) hp hq kw kn kf (nd : Int) pa de sz fi mt md mi tw tb tn tf tsh tmm tws tpl), (fun N0 => N0 = MW E ma 0 ask2 fnd fm nr rw0 (N : Int) (wd : Int) it md0 mm2 ua uw ((List.length H : Nat) : Int) kp kni kwi pi pd (nd : Int) ab (dmF (tI it) i N 0 (N - 1) (0, -9)).2), ?_, fun N0 h => by subst h; rfl, ?_, fun N0 h => by subst h; rfl, ?_⟩
    · refine (MC.frame (M := CW E ad ra ia fnd ask fm nr rr (wd : Int) ((nB N wd : Nat) : Int) (N : Int) f sh mm w pl ((List.length H : Nat) : Int) hp hq kw kn kf (nd : Int) pa de sz fi mt md mi tw tb tn tf tsh tmm tws tpl) [0, 42, 17, 18, 19] (c_X6_depth_ok E (ad 0) (ad 1) (ad 17) (ad 24) (ad 10) (ad 27) (ad 42) (ad 18) (ad 19) (ad 20) (ad 21) (ad 23) fnd ask (wd : Int) ((nB N wd : Nat) : Int) fm f N i (by omega) hi) rfl rfl (by rintro _ _ ⟨rfl, rfl⟩; rfl)).mono ?_
      rintro _ _ ⟨_, ⟨rfl, rfl⟩, rfl⟩
      exact ⟨rfl, rfl⟩
    · refine (MC.frame (M := MW E ma thr ask2 fnd fm nr rw0 (N : Int) (wd : Int) it md0 mm2 ua uw ((List.length H : Nat) : Int) kp kni kwi pi pd (nd : Int) ab pal) [0, 4] (c_X7_depth_ok E fnd ask2 (wd : Int) mm2 ((List.length H : Nat) : Int) (nd : Int) (ma 0) (ma 1) (ma 2) (ma 3) (ma 4) (ma 5) (ma 6) (ma 7) (ma 8) (ma 9) (ma 10) (ma 11) (ma 12) thr pd pal it N i (by omega) hi) rfl rfl (by rintro _ _ ⟨rfl, rfl⟩; rfl)).mono ?_
      rintro _ _ ⟨_, ⟨rfl, rfl⟩, rfl⟩
      exact ⟨congrArg (fun z => some (Value.int (iI z))) (by rw [← d3, paF_cg hg hi, dpF_cg hg N _ (paF_in (tI it) hi)]), rfl⟩
    · rintro _ _ rfl rfl
      exact ⟨ra, ia, fnd, ask, fm, nr, rr, wd, N, (N : Int), f, sh, mm, w, pl, H, hp, hq, kw, kn, kf, nd, pa, de, sz, fi, mt, md, mi, tw, tb, tn, tf, tsh, tmm, tws, tpl, 0, ask2, rw0, it, md0, mm2, ua, uw, kp, kni, kwi, pi, pd, ab, (dmF (tI it) i N 0 (N - 1) (0, -9)).2, rfl, rfl, hA, hR, hX, hK, hF, hask, hmm⟩
  · obtain ⟨c, hc⟩ : ∃ c : Int, (N = 0 ∧ c = -2) ∨ (1 ≤ N ∧ (z1 < 0 ∨ (N : Int) ≤ z1) ∧ c = 2) := by
      by_cases h0 : N = 0
      · exact ⟨-2, Or.inl ⟨h0, rfl⟩⟩
      · exact ⟨2, Or.inr ⟨by omega, by omega, rfl⟩⟩
    refine ⟨iI (rz c), (fun N0 => N0 = CW E ad ra ia (rf c fnd) ask (rm c fm) nr rr (wd : Int) ((nB N wd : Nat) : Int) nc f sh mm w pl ((List.length H : Nat) : Int) hp hq kw kn kf (nd : Int) pa de sz fi mt md mi tw tb tn tf tsh tmm tws tpl), (fun N0 => N0 = MW E ma 0 ask2 (rf c fnd) (rm c fm) nr rw0 (N : Int) (wd : Int) it md0 mm2 ua uw ((List.length H : Nat) : Int) kp kni kwi pi pd (nd : Int) ab pal), ?_, fun N0 h => by subst h; rfl, ?_, fun N0 h => by subst h; rfl, ?_⟩
    · refine (MC.frame (M := CW E ad ra ia fnd ask fm nr rr (wd : Int) ((nB N wd : Nat) : Int) nc f sh mm w pl ((List.length H : Nat) : Int) hp hq kw kn kf (nd : Int) pa de sz fi mt md mi tw tb tn tf tsh tmm tws tpl) [0, 42, 17, 18] (c_X6_depth_no E (ad 0) (ad 1) (ad 17) (ad 24) (ad 10) (ad 27) (ad 42) (ad 18) (ad 19) (ad 20) (ad 21) (ad 23) fnd ask (wd : Int) ((nB N wd : Nat) : Int) nc fm z1 c (by omega) hz1 (by omega)) rfl rfl (by rintro _ _ ⟨rfl, rfl⟩; rfl)).mono ?_
      rintro _ _ ⟨_, ⟨rfl, rfl⟩, rfl⟩
      exact ⟨rfl, rfl⟩
    · refine (MC.frame (M := MW E ma thr ask2 fnd fm nr rw0 (N : Int) (wd : Int) it md0 mm2 ua uw ((List.length H : Nat) : Int) kp kni kwi pi pd (nd : Int) ab pal) [0, 1] (c_X7_depth_no E fnd ask2 (wd : Int) (N : Int) mm2 ((List.length H : Nat) : Int) (nd : Int) fm (ma 0) (ma 1) (ma 2) (ma 3) (ma 4) (ma 5) (ma 6) (ma 7) (ma 8) (ma 9) (ma 10) (ma 11) (ma 12) thr pd pal z1 c (by omega) hz1 (by omega)) rfl rfl (by rintro _ _ ⟨rfl, rfl⟩; rfl)).mono ?_
      rintro _ _ ⟨_, ⟨rfl, rfl⟩, rfl⟩
      exact ⟨rfl, rfl⟩
    · rintro _ _ rfl rfl
      exact ⟨ra, ia, (rf c fnd), ask, (rm c fm), nr, rr, wd, N, nc, f, sh, mm, w, pl, H, hp, hq, kw, kn, kf, nd, pa, de, sz, fi, mt, md, mi, tw, tb, tn, tf, tsh, tmm, tws, tpl, 0, ask2, rw0, it, md0, mm2, ua, uw, kp, kni, kwi, pi, pd, ab, pal, rfl, rfl, hA, hR, hX, hK, hF, hask, hmm⟩
