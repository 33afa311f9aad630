theorem setI_same {q : Nat → Int} {r : Nat} {z : Int} (h : q r = z) : setI q r z = q := by
  funext j
  unfold setI
  by_cases e : j = r
  · subst e; rw [if_pos rfl, h]
  · rw [if_neg e]
theorem div_nB {i N wd : Nat} (hw : 1 ≤ wd) (hi : i < N) : i / wd < nB N wd := by
  unfold nB
  have h : (i + wd) / wd ≤ (N + wd - 1) / wd := Nat.div_le_div_right (by omega)
  rw [Nat.add_div_right _ hw] at h
  omega
theorem iX_built {fN itN sh hp hq ua uw : Nat → Int32} (w : Nat → Int64) (md0 : Nat → Int32) {n2 q : Nat} (hn : 1 ≤ n2 ∧ n2 ≤ 48) (hq6 : 1 ≤ q ∧ q ≤ 6) (h : ∀ k, k < n2 → fN k = itN k) : iX n2 q (n2 : Int) fN itN (shU sh (tI fN) n2 q (nB n2 q)) (inB (tI fN) n2 q (fa 0 64 w) (nB n2 q)).1 (imB (tI itN) n2 q (fa (iI 0) 256 md0) (nB n2 q)).1 [] hp hq ua uw ∧ (inB (tI fN) n2 q (fa 0 64 w) (nB n2 q)).2 = (imB (tI itN) n2 q (fa (iI 0) 256 md0) (nB n2 q)).2 := by
  have hg := tI_cg h
  obtain ⟨s1, s2, s3⟩ := set_build (tI fN) n2 hq6.2 w md0 (nB n2 q)
  rw [← imB_cg hg]
  refine ⟨Or.inr ⟨hn.1, hn.2, hq6.1, hq6.2, rfl, h, fun b hb => if_pos hb, s1, fun s hs hw => ?_, Nat.zero_le _, trivial, trivial, fun b hb => (s3 _ (shB_lt _ _ _ hq6.2)).mpr ⟨b, hb, rfl⟩⟩, s2⟩
  obtain ⟨b, _, rfl⟩ := (s3 s hs).mp hw
  exact shB_ok _ _ _ hq6.2

set_option maxRecDepth 100000 in
set_option maxHeartbeats 4000000 in
theorem st_build (E : jD) (ad ma : Nat → Nat) (C M : va_W) (hRel : Rel E ad ma C M) (z1 : Int) (z2 : Int) (hz1 : jr z1) (hz2 : jr z2) : StepI E ad ma Y_X6_build Y_X7_build [.ref (ad 0), .int (iI z1), .int (iI z2)] [.ref (ma 0), .int (iI z1), .int (iI z2)] C M := by
  refine Rel_elim (P := fun C M => StepI E ad ma Y_X6_build Y_X7_build [.ref (ad 0), .int (iI z1), .int (iI z2)] [.ref (ma 0), .int (iI z1), .int (iI z2)] C M) hRel ?_
  intro ra ia fnd ask fm nr rr wd N nc f sh mm w pl H hp hq kw kn kf nd pa de sz fi mt md mi tw tb tn tf tsh tmm tws tpl thr ask2 rw0 it md0 mm2 ua uw kp kni kwi pi pd ab pal hA hR hX hK hF hask hmm
  have hn := iX_n hX
  by_cases hb : z1 < 0 ∨ 4 ≤ z1 ∨ z2 < 1 ∨ 6 < z2
  · refine ⟨iI (-1), (fun N0 => N0 = CW E ad ra ia fnd ask fm nr rr (wd : Int) ((nB N wd : Nat) : Int) nc f sh mm w pl ((List.length H : Nat) : Int) hp hq kw kn kf (nd : Int) pa de sz fi mt md mi tw tb tn tf tsh tmm tws tpl), (fun N0 => N0 = MW E ma 0 ask2 fnd fm nr rw0 (N : Int) (wd : Int) it md0 mm2 ua uw ((List.length H : Nat) : Int) kp kni kwi pi pd (nd : Int) ab pal), ?_, fun N0 h => by subst h; rfl, ?_, fun N0 h => by subst h; rfl, ?_⟩
    · refine (MC.frame (M := CW E ad ra ia fnd ask fm nr rr (wd : Int) ((nB N wd : Nat) : Int) nc f sh mm w pl ((List.length H : Nat) : Int) hp hq kw kn kf (nd : Int) pa de sz fi mt md mi tw tb tn tf tsh tmm tws tpl) [0] (c_X6_build_bad E (ad 0) (ad 1) (ad 17) (ad 24) (ad 10) (ad 27) (ad 42) fnd ask z1 z2 hz1 hz2 hb) rfl rfl (by rintro _ _ ⟨rfl, rfl⟩; rfl)).mono ?_
      rintro _ _ ⟨_, ⟨rfl, rfl⟩, rfl⟩
      exact ⟨rfl, rfl⟩
    · refine (MC.frame (M := MW E ma thr ask2 fnd fm nr rw0 (N : Int) (wd : Int) it md0 mm2 ua uw ((List.length H : Nat) : Int) kp kni kwi pi pd (nd : Int) ab pal) [0] (c_X7_build_bad E fnd ask2 (wd : Int) (N : Int) mm2 ((List.length H : Nat) : Int) (nd : Int) (ma 0) (ma 1) (ma 2) (ma 3) (ma 4) (ma 5) (ma 6) (ma 7) (ma 8) (ma 9) (ma 10) (ma 11) (ma 12) thr pd pal z1 z2 hz1 hz2 hb) rfl rfl (by rintro _ _ ⟨rfl, rfl⟩; rfl)).mono ?_
      rintro _ _ ⟨_, ⟨rfl, rfl⟩, rfl⟩
      exact ⟨rfl, rfl⟩
    · rintro _ _ rfl rfl
      exact ⟨ra, ia, fnd, ask, fm, nr, rr, wd, N, nc, f, sh, mm, w, pl, H, hp, hq, kw, kn, kf, nd, pa, de, sz, fi, mt, md, mi, tw, tb, tn, tf, tsh, tmm, tws, tpl, 0, ask2, rw0, it, md0, mm2, ua, uw, kp, kni, kwi, pi, pd, ab, pal, rfl, rfl, hA, hR, hX, hK, hF, hask, hmm⟩
  · obtain ⟨r, rfl⟩ : ∃ q : Nat, z1 = (q : Int) := ⟨z1.toNat, by omega⟩
    obtain ⟨q, rfl⟩ : ∃ q : Nat, z2 = (q : Int) := ⟨z2.toNat, by omega⟩
    have hr4 : r < 4 := by omega
    obtain ⟨hN, hrw⟩ := hR r hr4
    have hra := hA.1 r hr4
    by_cases h0 : nr r < 1
    · obtain ⟨c, hc⟩ : ∃ c : Int, (nr r < 0 ∧ c = 1) ∨ (nr r = 0 ∧ c = 3) := by
        by_cases h1 : nr r < 0
        · exact ⟨1, Or.inl ⟨h1, rfl⟩⟩
        · exact ⟨3, Or.inr ⟨by omega, rfl⟩⟩
      refine ⟨iI (rz c), (fun N0 => N0 = CW E ad ra ia (rf c fnd) ask (rm c fm) nr rr (wd : Int) ((nB N wd : Nat) : Int) nc f sh mm w pl ((List.length H : Nat) : Int) hp hq kw kn kf (nd : Int) pa de sz fi mt md mi tw tb tn tf tsh tmm tws tpl), (fun N0 => N0 = MW E ma 0 ask2 (rf c fnd) (rm c fm) nr rw0 (N : Int) (wd : Int) it md0 mm2 ua uw ((List.length H : Nat) : Int) kp kni kwi pi pd (nd : Int) ab pal), ?_, fun N0 h => by subst h; rfl, ?_, fun N0 h => by subst h; rfl, ?_⟩
      · refine (MC.frame (M := CW E ad ra ia fnd ask fm nr rr (wd : Int) ((nB N wd : Nat) : Int) nc f sh mm w pl ((List.length H : Nat) : Int) hp hq kw kn kf (nd : Int) pa de sz fi mt md mi tw tb tn tf tsh tmm tws tpl) [0, 42, 1, (2 + 2 * r)] (c_X6_build_no E (ad 0) (ad 1) (ad 17) (ad 24) (ad 10) (ad 27) (ad 42) (ad (2 + 2 * r)) (ad (3 + 2 * r)) fnd ask (nr r) fm ra r q c (by omega) hra hN (by omega) hc) (by rcases lt4 hr4 with rfl | rfl | rfl | rfl <;> rfl) (by rcases lt4 hr4 with rfl | rfl | rfl | rfl <;> rfl) (by rintro _ _ ⟨rfl, rfl⟩; rfl)).mono ?_
        rintro _ _ ⟨_, ⟨rfl, rfl⟩, rfl⟩
        exact ⟨rfl, (by rcases lt4 hr4 with rfl | rfl | rfl | rfl <;> rfl)⟩
      · refine (MC.frame (M := MW E ma thr ask2 fnd fm nr rw0 (N : Int) (wd : Int) it md0 mm2 ua uw ((List.length H : Nat) : Int) kp kni kwi pi pd (nd : Int) ab pal) [0, 1, 3] (c_X7_build_no E fnd ask2 (wd : Int) (N : Int) mm2 ((List.length H : Nat) : Int) (nd : Int) fm (ma 0) (ma 1) (ma 2) (ma 3) (ma 4) (ma 5) (ma 6) (ma 7) (ma 8) (ma 9) (ma 10) (ma 11) (ma 12) thr pd pal nr r q c (by omega) hN (by omega) hc) rfl rfl (by rintro _ _ ⟨rfl, rfl⟩; rfl)).mono ?_
        rintro _ _ ⟨_, ⟨rfl, rfl⟩, rfl⟩
        exact ⟨rfl, rfl⟩
      · rintro _ _ rfl rfl
        exact ⟨ra, ia, (rf c fnd), ask, (rm c fm), nr, rr, wd, N, nc, f, sh, mm, w, pl, H, hp, hq, kw, kn, kf, nd, pa, de, sz, fi, mt, md, mi, tw, tb, tn, tf, tsh, tmm, tws, tpl, 0, ask2, rw0, it, md0, mm2, ua, uw, kp, kni, kwi, pi, pd, ab, pal, rfl, rfl, hA, hR, hX, hK, hF, hask, hmm⟩
    · obtain ⟨n2, hn2⟩ : ∃ x : Nat, nr r = (x : Int) := ⟨(nr r).toNat, by omega⟩
      have hfN : ∀ k, k < n2 → (va_cpy (rr r) f 0 0 48) k = (cpF rw0 it (48 * r) 0 n2) k := fun k hk => by
        unfold va_cpy cpF
        rw [if_pos (by omega), if_pos (by omega), Nat.zero_add, Nat.sub_zero]
        exact hrw k (by omega)
      obtain ⟨hX2, hmm2⟩ := iX_built (sh := sh) (hp := hp) (hq := hq) (ua := ua) (uw := uw) w md0 (n2 := n2) (q := q) (by omega) (by omega) hfN
      refine ⟨iI (((nB n2 q : Nat) : Int)), (fun N0 => ∃ pl2, N0 = CW E ad ra ia fnd ask fm nr rr (q : Int) ((nB n2 q : Nat) : Int) (n2 : Int) (va_cpy (rr r) f 0 0 48) (shU sh (tI (va_cpy (rr r) f 0 0 48)) n2 q (nB n2 q)) (inB (tI (va_cpy (rr r) f 0 0 48)) n2 q (fa 0 64 w) (nB n2 q)).2 (inB (tI (va_cpy (rr r) f 0 0 48)) n2 q (fa 0 64 w) (nB n2 q)).1 pl2 ((List.length ([] : List (Nat × Int32)) : Nat) : Int) hp hq kw kn kf (nd : Int) pa de sz fi mt md mi tw tb tn tf tsh tmm tws tpl), (fun N0 => ∃ pd2 pi2, N0 = MW E ma 0 ask2 fnd fm nr rw0 (n2 : Int) (q : Int) (cpF rw0 it (48 * r) 0 n2) (imB (tI (cpF rw0 it (48 * r) 0 n2)) n2 q (fa (iI 0) 256 md0) (nB n2 q)).1 (imB (tI (cpF rw0 it (48 * r) 0 n2)) n2 q (fa (iI 0) 256 md0) (nB n2 q)).2 ua uw ((List.length ([] : List (Nat × Int32)) : Nat) : Int) kp kni kwi pi2 pd2 (nd : Int) ab pal), ?_, fun N0 h => by obtain ⟨_, rfl⟩ := h; rfl, ?_, fun N0 h => by obtain ⟨_, _, rfl⟩ := h; rfl, ?_⟩
      · refine (MC.frame (M := CW E ad ra ia fnd ask fm nr rr (wd : Int) ((nB N wd : Nat) : Int) nc f sh mm w pl ((List.length H : Nat) : Int) hp hq kw kn kf (nd : Int) pa de sz fi mt md mi tw tb tn tf tsh tmm tws tpl) [0, 1, (2 + 2 * r), (3 + 2 * r), 17, 18, 19, 20, 21, 22, 23, 24, 25, 26] (c_X6_build_ok E (ad 0) (ad 1) (ad 17) (ad 24) (ad 10) (ad 27) (ad 42) (ad (2 + 2 * r)) (ad (3 + 2 * r)) (ad 18) (ad 19) (ad 20) (ad 21) (ad 22) (ad 23) (ad 25) (ad 26) fnd ask (wd : Int) ((nB N wd : Nat) : Int) nc mm ((List.length H : Nat) : Int) ra (rr r) f sh pl hp hq w r q n2 (by omega) hra (by omega) (by omega)) (by rcases lt4 hr4 with rfl | rfl | rfl | rfl <;> (rw [← hn2]; rfl)) (by rcases lt4 hr4 with rfl | rfl | rfl | rfl <;> rfl) (by rintro _ _ ⟨pl2, rfl, rfl⟩; rfl)).mono ?_
        rintro _ _ ⟨_, ⟨pl2, rfl, rfl⟩, rfl⟩
        exact ⟨rfl, ⟨pl2, ((by rcases lt4 hr4 with rfl | rfl | rfl | rfl <;> rfl : _ = CW E ad ra ia fnd ask fm (setI nr r (n2 : Int)) rr (q : Int) ((nB n2 q : Nat) : Int) (n2 : Int) (va_cpy (rr r) f 0 0 48) (shU sh (tI (va_cpy (rr r) f 0 0 48)) n2 q (nB n2 q)) (inB (tI (va_cpy (rr r) f 0 0 48)) n2 q (fa 0 64 w) (nB n2 q)).2 (inB (tI (va_cpy (rr r) f 0 0 48)) n2 q (fa 0 64 w) (nB n2 q)).1 pl2 ((List.length ([] : List (Nat × Int32)) : Nat) : Int) hp hq kw kn kf (nd : Int) pa de sz fi mt md mi tw tb tn tf tsh tmm tws tpl).trans (by rw [setI_same hn2]))⟩⟩
      · refine (MC.frame (M := MW E ma thr ask2 fnd fm nr rw0 (N : Int) (wd : Int) it md0 mm2 ua uw ((List.length H : Nat) : Int) kp kni kwi pi pd (nd : Int) ab pal) [0, 2, 3, 4, 5, 11] (c_X7_build_ok E fnd ask2 (wd : Int) (N : Int) mm2 ((List.length H : Nat) : Int) (nd : Int) (ma 0) (ma 1) (ma 2) (ma 3) (ma 4) (ma 5) (ma 6) (ma 7) (ma 8) (ma 9) (ma 10) (ma 11) (ma 12) thr pd pal nr rw0 it md0 pi r q n2 (by omega) (by omega) (by omega) (congrArg iI hn2)) rfl rfl (by rintro _ _ ⟨pd2, pi2, rfl, rfl⟩; rfl)).mono ?_
        rintro _ _ ⟨_, ⟨pd2, pi2, rfl, rfl⟩, rfl⟩
        exact ⟨rfl, ⟨pd2, pi2, rfl⟩⟩
      · rintro _ _ ⟨pl2, rfl⟩ ⟨pd2, pi2, rfl⟩
        exact ⟨ra, ia, fnd, ask, fm, nr, rr, q, n2, (n2 : Int), (va_cpy (rr r) f 0 0 48), (shU sh (tI (va_cpy (rr r) f 0 0 48)) n2 q (nB n2 q)), (inB (tI (va_cpy (rr r) f 0 0 48)) n2 q (fa 0 64 w) (nB n2 q)).2, (inB (tI (va_cpy (rr r) f 0 0 48)) n2 q (fa 0 64 w) (nB n2 q)).1, pl2, ([] : List (Nat × Int32)), hp, hq, kw, kn, kf, nd, pa, de, sz, fi, mt, md, mi, tw, tb, tn, tf, tsh, tmm, tws, tpl, 0, ask2, rw0, (cpF rw0 it (48 * r) 0 n2), (imB (tI (cpF rw0 it (48 * r) 0 n2)) n2 q (fa (iI 0) 256 md0) (nB n2 q)).1, (imB (tI (cpF rw0 it (48 * r) 0 n2)) n2 q (fa (iI 0) 256 md0) (nB n2 q)).2, ua, uw, kp, kni, kwi, pi2, pd2, ab, pal, rfl, rfl, hA, hR, hX2, hK, hF, hask, hmm2⟩

set_option maxRecDepth 100000 in
set_option maxHeartbeats 4000000 in
theorem st_keep (E : jD) (ad ma : Nat → Nat) (C M : va_W) (hRel : Rel E ad ma C M) (z1 : Int) (hz1 : jr z1) : StepI E ad ma Y_X6_keep Y_X7_keep [.ref (ad 0), .int (iI z1)] [.ref (ma 0), .int (iI z1)] C M := by
  refine Rel_elim (P := fun C M => StepI E ad ma Y_X6_keep Y_X7_keep [.ref (ad 0), .int (iI z1)] [.ref (ma 0), .int (iI z1)] C M) hRel ?_
  intro ra ia fnd ask fm nr rr wd N nc f sh mm w pl H hp hq kw kn kf nd pa de sz fi mt md mi tw tb tn tf tsh tmm tws tpl thr ask2 rw0 it md0 mm2 ua uw kp kni kwi pi pd ab pal hA hR hX hK hF hask hmm
  have hn := iX_n hX
  by_cases hb : z1 < 0 ∨ 2 ≤ z1
  · refine ⟨iI (-1), (fun N0 => N0 = CW E ad ra ia fnd ask fm nr rr (wd : Int) ((nB N wd : Nat) : Int) nc f sh mm w pl ((List.length H : Nat) : Int) hp hq kw kn kf (nd : Int) pa de sz fi mt md mi tw tb tn tf tsh tmm tws tpl), (fun N0 => N0 = MW E ma 0 ask2 fnd fm nr rw0 (N : Int) (wd : Int) it md0 mm2 ua uw ((List.length H : Nat) : Int) kp kni kwi pi pd (nd : Int) ab pal), ?_, fun N0 h => by subst h; rfl, ?_, fun N0 h => by subst h; rfl, ?_⟩
    · refine (MC.frame (M := CW E ad ra ia fnd ask fm nr rr (wd : Int) ((nB N wd : Nat) : Int) nc f sh mm w pl ((List.length H : Nat) : Int) hp hq kw kn kf (nd : Int) pa de sz fi mt md mi tw tb tn tf tsh tmm tws tpl) [0] (c_X6_keep_bad E (ad 0) (ad 1) (ad 17) (ad 24) (ad 10) (ad 27) (ad 42) fnd ask z1 hz1 hb) rfl rfl (by rintro _ _ ⟨rfl, rfl⟩; rfl)).mono ?_
      rintro _ _ ⟨_, ⟨rfl, rfl⟩, rfl⟩
      exact ⟨rfl, rfl⟩
    · refine (MC.frame (M := MW E ma thr ask2 fnd fm nr rw0 (N : Int) (wd : Int) it md0 mm2 ua uw ((List.length H : Nat) : Int) kp kni kwi pi pd (nd : Int) ab pal) [0] (c_X7_keep_bad E fnd ask2 (wd : Int) (N : Int) mm2 ((List.length H : Nat) : Int) (nd : Int) (ma 0) (ma 1) (ma 2) (ma 3) (ma 4) (ma 5) (ma 6) (ma 7) (ma 8) (ma 9) (ma 10) (ma 11) (ma 12) thr pd pal z1 hz1 hb) rfl rfl (by rintro _ _ ⟨rfl, rfl⟩; rfl)).mono ?_
      rintro _ _ ⟨_, ⟨rfl, rfl⟩, rfl⟩
      exact ⟨rfl, rfl⟩
    · rintro _ _ rfl rfl
      exact ⟨ra, ia, fnd, ask, fm, nr, rr, wd, N, nc, f, sh, mm, w, pl, H, hp, hq, kw, kn, kf, nd, pa, de, sz, fi, mt, md, mi, tw, tb, tn, tf, tsh, tmm, tws, tpl, 0, ask2, rw0, it, md0, mm2, ua, uw, kp, kni, kwi, pi, pd, ab, pal, rfl, rfl, hA, hR, hX, hK, hF, hask, hmm⟩
  · obtain ⟨k, rfl⟩ : ∃ q : Nat, z1 = (q : Int) := ⟨z1.toNat, by omega⟩
    have hk2 : k < 2 := by omega
    have hia := hA.2 k hk2
    by_cases h0 : N = 0
    · refine ⟨iI (rz (-2)), (fun N0 => N0 = CW E ad ra ia fnd ask fm nr rr (wd : Int) ((nB N wd : Nat) : Int) nc f sh mm w pl ((List.length H : Nat) : Int) hp hq kw kn kf (nd : Int) pa de sz fi mt md mi tw tb tn tf tsh tmm tws tpl), (fun N0 => N0 = MW E ma 0 ask2 fnd fm nr rw0 (N : Int) (wd : Int) it md0 mm2 ua uw ((List.length H : Nat) : Int) kp kni kwi pi pd (nd : Int) ab pal), ?_, fun N0 h => by subst h; rfl, ?_, fun N0 h => by subst h; rfl, ?_⟩
      · refine (MC.frame (M := CW E ad ra ia fnd ask fm nr rr (wd : Int) ((nB N wd : Nat) : Int) nc f sh mm w pl ((List.length H : Nat) : Int) hp hq kw kn kf (nd : Int) pa de sz fi mt md mi tw tb tn tf tsh tmm tws tpl) [0, 17, 18] (c_X6_keep_no E (ad 0) (ad 1) (ad 17) (ad 24) (ad 10) (ad 27) (ad 42) (ad 18) (ad 19) (ad 20) (ad 21) (ad 23) fnd ask (wd : Int) ((nB N wd : Nat) : Int) nc k (-2) (by omega) (by omega) (by omega)) rfl rfl (by rintro _ _ ⟨rfl, rfl⟩; rfl)).mono ?_
        rintro _ _ ⟨_, ⟨rfl, rfl⟩, rfl⟩
        exact ⟨rfl, rfl⟩
      · refine (MC.frame (M := MW E ma thr ask2 fnd fm nr rw0 (N : Int) (wd : Int) it md0 mm2 ua uw ((List.length H : Nat) : Int) kp kni kwi pi pd (nd : Int) ab pal) [0] (c_X7_keep_no E fnd ask2 (wd : Int) (N : Int) mm2 ((List.length H : Nat) : Int) (nd : Int) (ma 0) (ma 1) (ma 2) (ma 3) (ma 4) (ma 5) (ma 6) (ma 7) (ma 8) (ma 9) (ma 10) (ma 11) (ma 12) thr pd pal k (-2) (by omega) (by omega) (by omega)) rfl rfl (by rintro _ _ ⟨rfl, rfl⟩; rfl)).mono ?_
        rintro _ _ ⟨_, ⟨rfl, rfl⟩, rfl⟩
        exact ⟨rfl, rfl⟩
      · rintro _ _ rfl rfl
        exact ⟨ra, ia, fnd, ask, fm, nr, rr, wd, N, nc, f, sh, mm, w, pl, H, hp, hq, kw, kn, kf, nd, pa, de, sz, fi, mt, md, mi, tw, tb, tn, tf, tsh, tmm, tws, tpl, 0, ask2, rw0, it, md0, mm2, ua, uw, kp, kni, kwi, pi, pd, ab, pal, rfl, rfl, hA, hR, hX, hK, hF, hask, hmm⟩
    · obtain ⟨rfl, hfk, hsh, hset, hos, hh1, hh2, hch⟩ := iX_y hX (by omega)
      refine ⟨iI ((N : Int)), (fun N0 => N0 = CW E ad ra ia fnd ask fm nr rr (wd : Int) ((nB N wd : Nat) : Int) (N : Int) f sh mm w pl ((List.length H : Nat) : Int) hp hq (setI kw k (wd : Int)) (setI kn k (N : Int)) (setA kf k (va_cpy f (kf k) 0 0 48)) (nd : Int) pa de sz fi mt md mi tw tb tn tf tsh tmm tws tpl), (fun N0 => N0 = MW E ma 0 ask2 fnd fm nr rw0 (N : Int) (wd : Int) it md0 mm2 ua uw ((List.length H : Nat) : Int) (cpF it kp 0 (48 * k) N) (setI kni k (N : Int)) (setI kwi k (wd : Int)) pi pd (nd : Int) ab pal), ?_, fun N0 h => by subst h; rfl, ?_, fun N0 h => by subst h; rfl, ?_⟩
      · refine (MC.frame (M := CW E ad ra ia fnd ask fm nr rr (wd : Int) ((nB N wd : Nat) : Int) (N : Int) f sh mm w pl ((List.length H : Nat) : Int) hp hq kw kn kf (nd : Int) pa de sz fi mt md mi tw tb tn tf tsh tmm tws tpl) [0, 10, (11 + 3 * k), (12 + 3 * k), (13 + 3 * k), 17, 18, 19] (c_X6_keep_ok E (ad 0) (ad 1) (ad 17) (ad 24) (ad 10) (ad 27) (ad 42) (ad 18) (ad 19) (ad 20) (ad 21) (ad 23) (ad (11 + 3 * k)) (ad (12 + 3 * k)) (ad (13 + 3 * k)) fnd ask (wd : Int) ((nB N wd : Nat) : Int) (kw k) (kn k) ia f (kf k) k N (by omega) hia (by omega)) (by rcases lt2 hk2 with rfl | rfl <;> rfl) (by rcases lt2 hk2 with rfl | rfl <;> rfl) (by rintro _ _ ⟨rfl, rfl⟩; rfl)).mono ?_
        rintro _ _ ⟨_, ⟨rfl, rfl⟩, rfl⟩
        exact ⟨rfl, (by rcases lt2 hk2 with rfl | rfl <;> rfl)⟩
      · refine (MC.frame (M := MW E ma thr ask2 fnd fm nr rw0 (N : Int) (wd : Int) it md0 mm2 ua uw ((List.length H : Nat) : Int) kp kni kwi pi pd (nd : Int) ab pal) [0, 4, 8, 9, 10] (c_X7_keep_ok E fnd ask2 mm2 ((List.length H : Nat) : Int) (nd : Int) (ma 0) (ma 1) (ma 2) (ma 3) (ma 4) (ma 5) (ma 6) (ma 7) (ma 8) (ma 9) (ma 10) (ma 11) (ma 12) thr pd pal kni kwi it kp N wd k (by omega) (by omega)) rfl rfl (by rintro _ _ ⟨rfl, rfl⟩; rfl)).mono ?_
        rintro _ _ ⟨_, ⟨rfl, rfl⟩, rfl⟩
        exact ⟨rfl, rfl⟩
      · rintro _ _ rfl rfl
        exact ⟨ra, ia, fnd, ask, fm, nr, rr, wd, N, (N : Int), f, sh, mm, w, pl, H, hp, hq, (setI kw k (wd : Int)), (setI kn k (N : Int)), (setA kf k (va_cpy f (kf k) 0 0 48)), nd, pa, de, sz, fi, mt, md, mi, tw, tb, tn, tf, tsh, tmm, tws, tpl, 0, ask2, rw0, it, md0, mm2, ua, uw, (cpF it kp 0 (48 * k) N), (setI kni k (N : Int)), (setI kwi k (wd : Int)), pi, pd, ab, pal, rfl, rfl, hA, hR, hX, (fun q hq => by
          unfold setI setA
          by_cases e : q = k
          · subst e
            simp only [if_true]
            refine Or.inr ⟨by omega, by omega, trivial, by omega, by omega, trivial, fun j hj => ?_⟩
            unfold va_cpy cpF
            rw [if_pos (by omega), if_pos (by omega), hfk _ (by omega)]
            exact congrArg it (by omega)
          · simp only [if_neg e]
            rcases hK q hq with h | ⟨h1, h2, h3, h4, h5, h6, h7⟩
            · exact Or.inl h
            · refine Or.inr ⟨h1, h2, h3, h4, h5, h6, fun j hj => ?_⟩
              rw [h7 j hj]
              unfold cpF
              rw [if_neg (by omega)]), hF, hask, hmm⟩

set_option maxRecDepth 100000 in
set_option maxHeartbeats 4000000 in
theorem st_on (E : jD) (ad ma : Nat → Nat) (C M : va_W) (hRel : Rel E ad ma C M) (z1 : Int) (hz1 : jr z1) : StepI E ad ma Y_X6_on Y_X7_on [.ref (ad 0), .int (iI z1)] [.ref (ma 0), .int (iI z1)] C M := by
  refine Rel_elim (P := fun C M => StepI E ad ma Y_X6_on Y_X7_on [.ref (ad 0), .int (iI z1)] [.ref (ma 0), .int (iI z1)] C M) hRel ?_
  intro ra ia fnd ask fm nr rr wd N nc f sh mm w pl H hp hq kw kn kf nd pa de sz fi mt md mi tw tb tn tf tsh tmm tws tpl thr ask2 rw0 it md0 mm2 ua uw kp kni kwi pi pd ab pal hA hR hX hK hF hask hmm
  have hn := iX_n hX
  by_cases hb : z1 < 0 ∨ 2 ≤ z1
  · refine ⟨iI (-1), (fun N0 => N0 = CW E ad ra ia fnd ask fm nr rr (wd : Int) ((nB N wd : Nat) : Int) nc f sh mm w pl ((List.length H : Nat) : Int) hp hq kw kn kf (nd : Int) pa de sz fi mt md mi tw tb tn tf tsh tmm tws tpl), (fun N0 => N0 = MW E ma 0 ask2 fnd fm nr rw0 (N : Int) (wd : Int) it md0 mm2 ua uw ((List.length H : Nat) : Int) kp kni kwi pi pd (nd : Int) ab pal), ?_, fun N0 h => by subst h; rfl, ?_, fun N0 h => by subst h; rfl, ?_⟩
    · refine (MC.frame (M := CW E ad ra ia fnd ask fm nr rr (wd : Int) ((nB N wd : Nat) : Int) nc f sh mm w pl ((List.length H : Nat) : Int) hp hq kw kn kf (nd : Int) pa de sz fi mt md mi tw tb tn tf tsh tmm tws tpl) [0] (c_X6_on_bad E (ad 0) (ad 1) (ad 17) (ad 24) (ad 10) (ad 27) (ad 42) fnd ask z1 hz1 hb) rfl rfl (by rintro _ _ ⟨rfl, rfl⟩; rfl)).mono ?_
      rintro _ _ ⟨_, ⟨rfl, rfl⟩, rfl⟩
      exact ⟨rfl, rfl⟩
    · refine (MC.frame (M := MW E ma thr ask2 fnd fm nr rw0 (N : Int) (wd : Int) it md0 mm2 ua uw ((List.length H : Nat) : Int) kp kni kwi pi pd (nd : Int) ab pal) [0] (c_X7_on_bad E fnd ask2 (wd : Int) (N : Int) mm2 ((List.length H : Nat) : Int) (nd : Int) (ma 0) (ma 1) (ma 2) (ma 3) (ma 4) (ma 5) (ma 6) (ma 7) (ma 8) (ma 9) (ma 10) (ma 11) (ma 12) thr pd pal z1 hz1 hb) rfl rfl (by rintro _ _ ⟨rfl, rfl⟩; rfl)).mono ?_
      rintro _ _ ⟨_, ⟨rfl, rfl⟩, rfl⟩
      exact ⟨rfl, rfl⟩
    · rintro _ _ rfl rfl
      exact ⟨ra, ia, fnd, ask, fm, nr, rr, wd, N, nc, f, sh, mm, w, pl, H, hp, hq, kw, kn, kf, nd, pa, de, sz, fi, mt, md, mi, tw, tb, tn, tf, tsh, tmm, tws, tpl, 0, ask2, rw0, it, md0, mm2, ua, uw, kp, kni, kwi, pi, pd, ab, pal, rfl, rfl, hA, hR, hX, hK, hF, hask, hmm⟩
  · obtain ⟨k, rfl⟩ : ∃ q : Nat, z1 = (q : Int) := ⟨z1.toNat, by omega⟩
    have hk2 : k < 2 := by omega
    have hia := hA.2 k hk2
    rcases hK k hk2 with ⟨h1, h2⟩ | ⟨h1, h2, h3, h4, h5, h6, h7⟩
    · refine ⟨iI (rz (-2)), (fun N0 => N0 = CW E ad ra ia fnd ask fm nr rr (wd : Int) ((nB N wd : Nat) : Int) nc f sh mm w pl ((List.length H : Nat) : Int) hp hq kw kn kf (nd : Int) pa de sz fi mt md mi tw tb tn tf tsh tmm tws tpl), (fun N0 => N0 = MW E ma 0 ask2 fnd fm nr rw0 (N : Int) (wd : Int) it md0 mm2 ua uw ((List.length H : Nat) : Int) kp kni kwi pi pd (nd : Int) ab pal), ?_, fun N0 h => by subst h; rfl, ?_, fun N0 h => by subst h; rfl, ?_⟩
      · refine (MC.frame (M := CW E ad ra ia fnd ask fm nr rr (wd : Int) ((nB N wd : Nat) : Int) nc f sh mm w pl ((List.length H : Nat) : Int) hp hq kw kn kf (nd : Int) pa de sz fi mt md mi tw tb tn tf tsh tmm tws tpl) [0, 10, (11 + 3 * k), (12 + 3 * k)] (c_X6_on_no E (ad 0) (ad 1) (ad 17) (ad 24) (ad 10) (ad 27) (ad 42) (ad (11 + 3 * k)) (ad (12 + 3 * k)) (ad (13 + 3 * k)) fnd ask (kw k) (kn k) ia k (-2) (by omega) hia h1 (by omega)) (by rcases lt2 hk2 with rfl | rfl <;> rfl) (by rcases lt2 hk2 with rfl | rfl <;> rfl) (by rintro _ _ ⟨rfl, rfl⟩; rfl)).mono ?_
        rintro _ _ ⟨_, ⟨rfl, rfl⟩, rfl⟩
        exact ⟨rfl, (by rcases lt2 hk2 with rfl | rfl <;> rfl)⟩
      · refine (MC.frame (M := MW E ma thr ask2 fnd fm nr rw0 (N : Int) (wd : Int) it md0 mm2 ua uw ((List.length H : Nat) : Int) kp kni kwi pi pd (nd : Int) ab pal) [0, 9] (c_X7_on_no E fnd ask2 (wd : Int) (N : Int) mm2 ((List.length H : Nat) : Int) (nd : Int) (ma 0) (ma 1) (ma 2) (ma 3) (ma 4) (ma 5) (ma 6) (ma 7) (ma 8) (ma 9) (ma 10) (ma 11) (ma 12) thr pd pal kni k (-2) (by omega) h2 (by omega)) rfl rfl (by rintro _ _ ⟨rfl, rfl⟩; rfl)).mono ?_
        rintro _ _ ⟨_, ⟨rfl, rfl⟩, rfl⟩
        exact ⟨rfl, rfl⟩
      · rintro _ _ rfl rfl
        exact ⟨ra, ia, fnd, ask, fm, nr, rr, wd, N, nc, f, sh, mm, w, pl, H, hp, hq, kw, kn, kf, nd, pa, de, sz, fi, mt, md, mi, tw, tb, tn, tf, tsh, tmm, tws, tpl, 0, ask2, rw0, it, md0, mm2, ua, uw, kp, kni, kwi, pi, pd, ab, pal, rfl, rfl, hA, hR, hX, hK, hF, hask, hmm⟩
    · obtain ⟨n2, hn2⟩ : ∃ x : Nat, kn k = (x : Int) := ⟨(kn k).toNat, by omega⟩
      obtain ⟨q, hq2⟩ : ∃ x : Nat, kw k = (x : Int) := ⟨(kw k).toNat, by omega⟩
      have hfN : ∀ j, j < n2 → (va_cpy (kf k) f 0 0 48) j = (cpF kp it (48 * k) 0 n2) j := fun j hj => by
        unfold va_cpy cpF
        rw [if_pos (by omega), if_pos (by omega), Nat.zero_add, Nat.sub_zero]
        exact h7 j (by omega)
      obtain ⟨hX2, hmm2⟩ := iX_built (sh := sh) (hp := hp) (hq := hq) (ua := ua) (uw := uw) w md0 (n2 := n2) (q := q) (by omega) (by omega) hfN
      refine ⟨iI ((n2 : Int)), (fun N0 => ∃ pl2, N0 = CW E ad ra ia fnd ask fm nr rr (q : Int) ((nB n2 q : Nat) : Int) (n2 : Int) (va_cpy (kf k) f 0 0 48) (shU sh (tI (va_cpy (kf k) f 0 0 48)) n2 q (nB n2 q)) (inB (tI (va_cpy (kf k) f 0 0 48)) n2 q (fa 0 64 w) (nB n2 q)).2 (inB (tI (va_cpy (kf k) f 0 0 48)) n2 q (fa 0 64 w) (nB n2 q)).1 pl2 ((List.length ([] : List (Nat × Int32)) : Nat) : Int) hp hq kw kn kf (nd : Int) pa de sz fi mt md mi tw tb tn tf tsh tmm tws tpl), (fun N0 => ∃ pd2 pi2, N0 = MW E ma 0 ask2 fnd fm nr rw0 (n2 : Int) (q : Int) (cpF kp it (48 * k) 0 n2) (imB (tI (cpF kp it (48 * k) 0 n2)) n2 q (fa (iI 0) 256 md0) (nB n2 q)).1 (imB (tI (cpF kp it (48 * k) 0 n2)) n2 q (fa (iI 0) 256 md0) (nB n2 q)).2 ua uw ((List.length ([] : List (Nat × Int32)) : Nat) : Int) kp kni kwi pi2 pd2 (nd : Int) ab pal), ?_, fun N0 h => by obtain ⟨_, rfl⟩ := h; rfl, ?_, fun N0 h => by obtain ⟨_, _, rfl⟩ := h; rfl, ?_⟩
      · refine (MC.frame (M := CW E ad ra ia fnd ask fm nr rr (wd : Int) ((nB N wd : Nat) : Int) nc f sh mm w pl ((List.length H : Nat) : Int) hp hq kw kn kf (nd : Int) pa de sz fi mt md mi tw tb tn tf tsh tmm tws tpl) [0, 10, (11 + 3 * k), (12 + 3 * k), (13 + 3 * k), 17, 18, 19, 20, 21, 22, 23, 24, 25, 26] (c_X6_on_ok E (ad 0) (ad 1) (ad 17) (ad 24) (ad 10) (ad 27) (ad 42) (ad 18) (ad 19) (ad 20) (ad 21) (ad 22) (ad 23) (ad 25) (ad 26) (ad (11 + 3 * k)) (ad (12 + 3 * k)) (ad (13 + 3 * k)) fnd ask (wd : Int) ((nB N wd : Nat) : Int) nc mm ((List.length H : Nat) : Int) ia f sh pl hp hq (kf k) w k q n2 (by omega) hia (by omega) (by omega)) (by rcases lt2 hk2 with rfl | rfl <;> (rw [← hn2, ← hq2]; rfl)) (by rcases lt2 hk2 with rfl | rfl <;> rfl) (by rintro _ _ ⟨pl2, rfl, rfl⟩; rfl)).mono ?_
        rintro _ _ ⟨_, ⟨pl2, rfl, rfl⟩, rfl⟩
        exact ⟨rfl, ⟨pl2, ((by rcases lt2 hk2 with rfl | rfl <;> rfl : _ = CW E ad ra ia fnd ask fm nr rr (q : Int) ((nB n2 q : Nat) : Int) (n2 : Int) (va_cpy (kf k) f 0 0 48) (shU sh (tI (va_cpy (kf k) f 0 0 48)) n2 q (nB n2 q)) (inB (tI (va_cpy (kf k) f 0 0 48)) n2 q (fa 0 64 w) (nB n2 q)).2 (inB (tI (va_cpy (kf k) f 0 0 48)) n2 q (fa 0 64 w) (nB n2 q)).1 pl2 ((List.length ([] : List (Nat × Int32)) : Nat) : Int) hp hq (setI kw k (q : Int)) (setI kn k (n2 : Int)) kf (nd : Int) pa de sz fi mt md mi tw tb tn tf tsh tmm tws tpl).trans (by rw [setI_same hn2, setI_same hq2]))⟩⟩
      · refine (MC.frame (M := MW E ma thr ask2 fnd fm nr rw0 (N : Int) (wd : Int) it md0 mm2 ua uw ((List.length H : Nat) : Int) kp kni kwi pi pd (nd : Int) ab pal) [0, 8, 9, 10, 4, 5, 11] (c_X7_on_ok E fnd ask2 (wd : Int) (N : Int) mm2 ((List.length H : Nat) : Int) (nd : Int) (ma 0) (ma 1) (ma 2) (ma 3) (ma 4) (ma 5) (ma 6) (ma 7) (ma 8) (ma 9) (ma 10) (ma 11) (ma 12) thr pd pal kni kwi it md0 kp pi k q n2 hk2 (by omega) (by omega) (congrArg iI (h3.trans hn2)) (congrArg iI (h6.trans hq2))) rfl rfl (by rintro _ _ ⟨pd2, pi2, rfl, rfl⟩; rfl)).mono ?_
        rintro _ _ ⟨_, ⟨pd2, pi2, rfl, rfl⟩, rfl⟩
        exact ⟨rfl, ⟨pd2, pi2, rfl⟩⟩
      · rintro _ _ ⟨pl2, rfl⟩ ⟨pd2, pi2, rfl⟩
        exact ⟨ra, ia, fnd, ask, fm, nr, rr, q, n2, (n2 : Int), (va_cpy (kf k) f 0 0 48), (shU sh (tI (va_cpy (kf k) f 0 0 48)) n2 q (nB n2 q)), (inB (tI (va_cpy (kf k) f 0 0 48)) n2 q (fa 0 64 w) (nB n2 q)).2, (inB (tI (va_cpy (kf k) f 0 0 48)) n2 q (fa 0 64 w) (nB n2 q)).1, pl2, ([] : List (Nat × Int32)), hp, hq, kw, kn, kf, nd, pa, de, sz, fi, mt, md, mi, tw, tb, tn, tf, tsh, tmm, tws, tpl, 0, ask2, rw0, (cpF kp it (48 * k) 0 n2), (imB (tI (cpF kp it (48 * k) 0 n2)) n2 q (fa (iI 0) 256 md0) (nB n2 q)).1, (imB (tI (cpF kp it (48 * k) 0 n2)) n2 q (fa (iI 0) 256 md0) (nB n2 q)).2, ua, uw, kp, kni, kwi, pi2, pd2, ab, pal, rfl, rfl, hA, hR, hX2, hK, hF, hask, hmm2⟩
