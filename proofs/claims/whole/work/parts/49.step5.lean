theorem iX_put {N wd : Nat} {f it sh : Nat → Int32} {w : Nat → Int64} {md0 : Nat → Int32} {H H2 : List (Nat × Int32)} {hp hq ua uw hp2 hq2 ua2 uw2 : Nat → Int32} {i : Nat} {v : Int32} {mm mm2 : Int} (hN : 1 ≤ N ∧ N ≤ 48) (hw : 1 ≤ wd ∧ wd ≤ 6) (hi : i < N) (hfk : ∀ k, k < N → f k = it k) (hsh : ∀ b, b < nB N wd → sh b = iI (shB (tI f) N wd b : Nat)) (hset : setR w md0) (hos : ∀ s, s < 4096 → wB w s = true → okS s) (hmm : mm = mm2) (hl : H2.length ≤ 10) (h1 : hiIs hp2 hq2 H2) (h2 : hiIs ua2 uw2 H2) (hch : chOK N wd (inW w (shB (tI (upd f i v)) N wd (i / wd))) (upd f i v) H2) :
    iX N wd (N : Int) (upd f i v) (upd it i v) (upd sh (i / wd) (iI (shB (tI (upd f i v)) N wd (i / wd) : Nat))) (inW w (shB (tI (upd f i v)) N wd (i / wd))) (imW md0 (shB (tI (upd it i v)) N wd (i / wd))) H2 hp2 hq2 ua2 uw2 ∧ inM w mm (shB (tI (upd f i v)) N wd (i / wd)) = imM md0 mm2 (shB (tI (upd it i v)) N wd (i / wd)) ∧ bI (¬ (shB (tI (upd it i v)) N wd (i / wd) : Int) = (shB (tI it) N wd (i / wd) : Int)) = bI (¬ (shB (tI (upd f i v)) N wd (i / wd) : Int) = (sh (i / wd)).toInt) := by
  have hu : ∀ k, k < N → upd f i v k = upd it i v k := fun k hk => by
    by_cases e : k = i
    · subst e; rw [upd_at, upd_at]
    · rw [upd_ne e, upd_ne e, hfk k hk]
  have e := shB_cg (tI_cg hu) wd (i / wd)
  have e2 := shB_cg (tI_cg hfk) wd (i / wd)
  have hs := shB_lt (tI (upd f i v)) N (i / wd) hw.2
  have hs2 := shB_lt (tI f) N (i / wd) hw.2
  rw [← e, ← e2]
  refine ⟨Or.inr ⟨hN.1, hN.2, hw.1, hw.2, rfl, hu, fun b hb => ?_, setR_in hset hs, fun s h3 h4 => ?_, hl, h1, h2, hch⟩, by rw [setR_m hset hs, hmm], ?_⟩
  · by_cases eb : b = i / wd
    · subst eb; rw [upd_at]
    · rw [upd_ne eb, hsh b hb, shB_other hw.1 eb]
  · rw [wB_in, Bool.or_eq_true, decide_eq_true_eq] at h4
    rcases h4 with h4 | h4
    · exact hos s h3 h4
    · subst h4; exact shB_ok _ _ _ hw.2
  · rw [hsh _ (nB_div hw.1 hi), iI_t ⟨by omega, by omega⟩]
theorem app_last : ∀ (H : List (Nat × Int32)), 1 ≤ H.length → ∃ H' x, H = H' ++ [x]
  | [], h => absurd h (by decide)
  | [a], _ => ⟨[], a, rfl⟩
  | a :: b :: H, _ => by
    obtain ⟨H', x, e⟩ := app_last (b :: H) (by simp)
    exact ⟨a :: H', x, by rw [e]; rfl⟩

set_option maxRecDepth 100000 in
set_option maxHeartbeats 4000000 in
theorem st_put (E : jD) (ad ma : Nat → Nat) (C M : va_W) (hRel : Rel E ad ma C M) (z1 : Int) (z2 : Int) (hz1 : jr z1) (hz2 : jr z2) : StepI E ad ma Y_X6_put Y_X7_put [.ref (ad 0), .int (iI z1), .int (iI z2)] [.ref (ma 0), .int (iI z1), .int (iI z2)] C M := by
  refine Rel_elim (P := fun C M => StepI E ad ma Y_X6_put Y_X7_put [.ref (ad 0), .int (iI z1), .int (iI z2)] [.ref (ma 0), .int (iI z1), .int (iI z2)] C M) hRel ?_
  intro ra ia fnd ask fm nr rr wd N nc f sh mm w pl H hp hq kw kn kf nd pa de sz fi mt md mi tw tb tn tf tsh tmm tws tpl thr ask2 rw0 it md0 mm2 ua uw kp kni kwi pi pd ab pal hA hR hX hK hF hask hmm
  have hn := iX_n hX
  by_cases hok : 1 ≤ N ∧ 0 ≤ z1 ∧ z1 < N
  · obtain ⟨i, rfl⟩ : ∃ q : Nat, z1 = (q : Int) := ⟨z1.toNat, by omega⟩
    have hi : i < N := by omega
    obtain ⟨rfl, hfk, hsh, hset, hos, hh1, hh2, hch⟩ := iX_y hX (by omega)
    have hg := tI_cg hfk
    by_cases h10 : H.length < 10
    · have p1 : hiIs (upd hp H.length (iI (i : Int))) (upd hq H.length (iI (f i).toInt)) ((i, f i) :: H) := by rw [iI_x]; exact hiIs_push hh1 i (f i)
      have p2 : hiIs (upd ua H.length (iI (i : Int))) (upd uw H.length (iI (it i).toInt)) ((i, f i) :: H) := by rw [iI_x, ← hfk i hi]; exact hiIs_push hh2 i (f i)
      have hch2 := chOK_put (v := iI z2) (by omega) hi hch
      obtain ⟨hX2, hmm2, heq⟩ := iX_put (H := H) (hp := hp) (hq := hq) (ua := ua) (uw := uw) (by omega) (by omega) hi hfk hsh hset hos hmm (by rw [List.length_cons]; omega) p1 p2 hch2
      refine ⟨iI (bI (¬ ((shB (tI (upd f i (iI z2))) N wd (i / wd)) : Int) = (sh (i / wd)).toInt)), (fun N0 => ∃ pl2, N0 = CW E ad ra ia fnd (f i).toInt fm nr rr (wd : Int) ((nB N wd : Nat) : Int) (N : Int) (upd f i (iI z2)) (upd sh (i / wd) (iI ((shB (tI (upd f i (iI z2))) N wd (i / wd)) : Nat))) (inM w mm (shB (tI (upd f i (iI z2))) N wd (i / wd))) (inW w (shB (tI (upd f i (iI z2))) N wd (i / wd))) pl2 ((List.length ((i, f i) :: H) : Nat) : Int) (upd hp H.length (iI (i : Int))) (upd hq H.length (iI (f i).toInt)) kw kn kf (nd : Int) pa de sz fi mt md mi tw tb tn tf tsh tmm tws tpl), (fun N0 => ∃ pd2 pi2, N0 = MW E ma 0 (it i).toInt fnd fm nr rw0 (N : Int) (wd : Int) (upd it i (iI z2)) (imW md0 (shB (tI (upd it i (iI z2))) N wd (i / wd))) (imM md0 mm2 (shB (tI (upd it i (iI z2))) N wd (i / wd))) (upd ua H.length (iI (i : Int))) (upd uw H.length (iI (it i).toInt)) ((List.length ((i, f i) :: H) : Nat) : Int) kp kni kwi pi2 pd2 (nd : Int) ab pal), ?_, fun N0 h => by obtain ⟨_, rfl⟩ := h; rfl, ?_, fun N0 h => by obtain ⟨_, _, rfl⟩ := h; rfl, ?_⟩
      · refine (MC.frame (M := CW E ad ra ia fnd ask fm nr rr (wd : Int) ((nB N wd : Nat) : Int) (N : Int) f sh mm w pl ((List.length H : Nat) : Int) hp hq kw kn kf (nd : Int) pa de sz fi mt md mi tw tb tn tf tsh tmm tws tpl) [0, 42, 17, 18, 19, 20, 21, 22, 23, 24, 25, 26] (c_X6_put_lo E (ad 0) (ad 1) (ad 17) (ad 24) (ad 10) (ad 27) (ad 42) (ad 18) (ad 19) (ad 20) (ad 21) (ad 22) (ad 23) (ad 25) (ad 26) fnd ask ((nB N wd : Nat) : Int) mm fm f sh pl hp hq w N wd i (iI z2) (List.length H) (by omega) (by omega) hi (by omega)) rfl rfl (by rintro _ _ ⟨pl2, rfl, rfl⟩; rfl)).mono ?_
        rintro _ _ ⟨_, ⟨pl2, rfl, rfl⟩, rfl⟩
        exact ⟨rfl, ⟨pl2, rfl⟩⟩
      · refine (MC.frame (M := MW E ma thr ask2 fnd fm nr rw0 (N : Int) (wd : Int) it md0 mm2 ua uw ((List.length H : Nat) : Int) kp kni kwi pi pd (nd : Int) ab pal) [0, 4, 5, 6, 7, 11] (c_X7_put_lo E fnd ask2 mm2 (nd : Int) (ma 0) (ma 1) (ma 2) (ma 3) (ma 4) (ma 5) (ma 6) (ma 7) (ma 8) (ma 9) (ma 10) (ma 11) (ma 12) thr pd pal it md0 ua uw pi N wd i (iI z2) (List.length H) (by omega) (by omega) hi (by omega)) rfl rfl (by rintro _ _ ⟨pd2, pi2, rfl, rfl⟩; rfl)).mono ?_
        rintro _ _ ⟨_, ⟨pd2, pi2, rfl, rfl⟩, rfl⟩
        exact ⟨congrArg (fun z => some (Value.int (iI z))) (heq), ⟨pd2, pi2, rfl⟩⟩
      · rintro _ _ ⟨pl2, rfl⟩ ⟨pd2, pi2, rfl⟩
        exact ⟨ra, ia, fnd, (f i).toInt, fm, nr, rr, wd, N, (N : Int), (upd f i (iI z2)), (upd sh (i / wd) (iI ((shB (tI (upd f i (iI z2))) N wd (i / wd)) : Nat))), (inM w mm (shB (tI (upd f i (iI z2))) N wd (i / wd))), (inW w (shB (tI (upd f i (iI z2))) N wd (i / wd))), pl2, ((i, f i) :: H), (upd hp H.length (iI (i : Int))), (upd hq H.length (iI (f i).toInt)), kw, kn, kf, nd, pa, de, sz, fi, mt, md, mi, tw, tb, tn, tf, tsh, tmm, tws, tpl, 0, (it i).toInt, rw0, (upd it i (iI z2)), (imW md0 (shB (tI (upd it i (iI z2))) N wd (i / wd))), (imM md0 mm2 (shB (tI (upd it i (iI z2))) N wd (i / wd))), (upd ua H.length (iI (i : Int))), (upd uw H.length (iI (it i).toInt)), kp, kni, kwi, pi2, pd2, ab, pal, rfl, rfl, hA, hR, hX2, hK, hF, (hg i hi), hmm2⟩
    · obtain ⟨H2, x, rfl⟩ := app_last H (by omega)
      have hl : H2.length = 9 := by rw [List.length_append, List.length_singleton] at h10 hn; omega
      have p1 : hiIs (upd (shF hp 9) 9 (iI (i : Int))) (upd (shF hq 9) 9 (iI (f i).toInt)) ((i, f i) :: H2) := by rw [iI_x]; have h := hiIs_push (hiIs_drop x (by omega) hh1) i (f i); rw [hl] at h; exact h
      have p2 : hiIs (upd (shF ua 9) 9 (iI (i : Int))) (upd (shF uw 9) 9 (iI (it i).toInt)) ((i, f i) :: H2) := by rw [iI_x, ← hfk i hi]; have h := hiIs_push (hiIs_drop x (by omega) hh2) i (f i); rw [hl] at h; exact h
      have hch2 := chOK_drop (H := (i, f i) :: H2) x (chOK_put (v := iI z2) (by omega) hi hch)
      obtain ⟨hX2, hmm2, heq⟩ := iX_put (H := H2) (hp := hp) (hq := hq) (ua := ua) (uw := uw) (by omega) (by omega) hi hfk hsh hset hos hmm (by rw [List.length_cons]; omega) p1 p2 hch2
      have e1 : ((List.length (H2 ++ [x]) : Nat) : Int) = 10 := by rw [List.length_append, List.length_singleton, hl]; rfl
      have e2 : ((List.length ((i, f i) :: H2) : Nat) : Int) = 10 := by rw [List.length_cons, hl]; rfl
      refine ⟨iI (bI (¬ ((shB (tI (upd f i (iI z2))) N wd (i / wd)) : Int) = (sh (i / wd)).toInt)), (fun N0 => ∃ pl2, N0 = CW E ad ra ia fnd (f i).toInt fm nr rr (wd : Int) ((nB N wd : Nat) : Int) (N : Int) (upd f i (iI z2)) (upd sh (i / wd) (iI ((shB (tI (upd f i (iI z2))) N wd (i / wd)) : Nat))) (inM w mm (shB (tI (upd f i (iI z2))) N wd (i / wd))) (inW w (shB (tI (upd f i (iI z2))) N wd (i / wd))) pl2 ((List.length ((i, f i) :: H2) : Nat) : Int) (upd (shF hp 9) 9 (iI (i : Int))) (upd (shF hq 9) 9 (iI (f i).toInt)) kw kn kf (nd : Int) pa de sz fi mt md mi tw tb tn tf tsh tmm tws tpl), (fun N0 => ∃ pd2 pi2, N0 = MW E ma 0 (it i).toInt fnd fm nr rw0 (N : Int) (wd : Int) (upd it i (iI z2)) (imW md0 (shB (tI (upd it i (iI z2))) N wd (i / wd))) (imM md0 mm2 (shB (tI (upd it i (iI z2))) N wd (i / wd))) (upd (shF ua 9) 9 (iI (i : Int))) (upd (shF uw 9) 9 (iI (it i).toInt)) ((List.length ((i, f i) :: H2) : Nat) : Int) kp kni kwi pi2 pd2 (nd : Int) ab pal), ?_, fun N0 h => by obtain ⟨_, rfl⟩ := h; rfl, ?_, fun N0 h => by obtain ⟨_, _, rfl⟩ := h; rfl, ?_⟩
      · refine (MC.frame (M := CW E ad ra ia fnd ask fm nr rr (wd : Int) ((nB N wd : Nat) : Int) (N : Int) f sh mm w pl ((List.length (H2 ++ [x]) : Nat) : Int) hp hq kw kn kf (nd : Int) pa de sz fi mt md mi tw tb tn tf tsh tmm tws tpl) [0, 42, 17, 18, 19, 20, 21, 22, 23, 24, 25, 26] (c_X6_put_hi E (ad 0) (ad 1) (ad 17) (ad 24) (ad 10) (ad 27) (ad 42) (ad 18) (ad 19) (ad 20) (ad 21) (ad 22) (ad 23) (ad 25) (ad 26) fnd ask ((nB N wd : Nat) : Int) mm fm f sh pl hp hq w N wd i (iI z2) (by omega) (by omega) hi) (by rw [e1]; rfl) rfl (by rintro _ _ ⟨pl2, rfl, rfl⟩; rfl)).mono ?_
        rintro _ _ ⟨_, ⟨pl2, rfl, rfl⟩, rfl⟩
        exact ⟨rfl, ⟨pl2, (by rw [e1, e2]; rfl)⟩⟩
      · refine (MC.frame (M := MW E ma thr ask2 fnd fm nr rw0 (N : Int) (wd : Int) it md0 mm2 ua uw ((List.length (H2 ++ [x]) : Nat) : Int) kp kni kwi pi pd (nd : Int) ab pal) [0, 4, 5, 6, 7, 11] (c_X7_put_hi E fnd ask2 mm2 (nd : Int) (ma 0) (ma 1) (ma 2) (ma 3) (ma 4) (ma 5) (ma 6) (ma 7) (ma 8) (ma 9) (ma 10) (ma 11) (ma 12) thr pd pal it md0 ua uw pi N wd i (iI z2) (by omega) (by omega) hi) (by rw [e1]; rfl) rfl (by rintro _ _ ⟨pd2, pi2, rfl, rfl⟩; rfl)).mono ?_
        rintro _ _ ⟨_, ⟨pd2, pi2, rfl, rfl⟩, rfl⟩
        exact ⟨congrArg (fun z => some (Value.int (iI z))) (heq), ⟨pd2, pi2, (by rw [e1, e2]; rfl)⟩⟩
      · rintro _ _ ⟨pl2, rfl⟩ ⟨pd2, pi2, rfl⟩
        exact ⟨ra, ia, fnd, (f i).toInt, fm, nr, rr, wd, N, (N : Int), (upd f i (iI z2)), (upd sh (i / wd) (iI ((shB (tI (upd f i (iI z2))) N wd (i / wd)) : Nat))), (inM w mm (shB (tI (upd f i (iI z2))) N wd (i / wd))), (inW w (shB (tI (upd f i (iI z2))) N wd (i / wd))), pl2, ((i, f i) :: H2), (upd (shF hp 9) 9 (iI (i : Int))), (upd (shF hq 9) 9 (iI (f i).toInt)), kw, kn, kf, nd, pa, de, sz, fi, mt, md, mi, tw, tb, tn, tf, tsh, tmm, tws, tpl, 0, (it i).toInt, rw0, (upd it i (iI z2)), (imW md0 (shB (tI (upd it i (iI z2))) N wd (i / wd))), (imM md0 mm2 (shB (tI (upd it i (iI z2))) N wd (i / wd))), (upd (shF ua 9) 9 (iI (i : Int))), (upd (shF uw 9) 9 (iI (it i).toInt)), kp, kni, kwi, pi2, pd2, ab, pal, rfl, rfl, hA, hR, hX2, hK, hF, (hg i hi), hmm2⟩
  · obtain ⟨c, hc⟩ : ∃ c : Int, (N = 0 ∧ c = -2) ∨ (1 ≤ N ∧ (z1 < 0 ∨ (N : Int) ≤ z1) ∧ c = 2) := by
      by_cases h0 : N = 0
      · exact ⟨-2, Or.inl ⟨h0, rfl⟩⟩
      · exact ⟨2, Or.inr ⟨by omega, by omega, rfl⟩⟩
    refine ⟨iI (rz c), (fun N0 => N0 = CW E ad ra ia (rf c fnd) ask (rm c fm) nr rr (wd : Int) ((nB N wd : Nat) : Int) nc f sh mm w pl ((List.length H : Nat) : Int) hp hq kw kn kf (nd : Int) pa de sz fi mt md mi tw tb tn tf tsh tmm tws tpl), (fun N0 => N0 = MW E ma 0 ask2 (rf c fnd) (rm c fm) nr rw0 (N : Int) (wd : Int) it md0 mm2 ua uw ((List.length H : Nat) : Int) kp kni kwi pi pd (nd : Int) ab pal), ?_, fun N0 h => by subst h; rfl, ?_, fun N0 h => by subst h; rfl, ?_⟩
    · refine (MC.frame (M := CW E ad ra ia fnd ask fm nr rr (wd : Int) ((nB N wd : Nat) : Int) nc f sh mm w pl ((List.length H : Nat) : Int) hp hq kw kn kf (nd : Int) pa de sz fi mt md mi tw tb tn tf tsh tmm tws tpl) [0, 42, 17, 18] (c_X6_put_no E (ad 0) (ad 1) (ad 17) (ad 24) (ad 10) (ad 27) (ad 42) (ad 18) (ad 19) (ad 20) (ad 21) (ad 23) fnd ask (wd : Int) ((nB N wd : Nat) : Int) nc fm z1 c (iI z2) (by omega) hz1 (by omega)) rfl rfl (by rintro _ _ ⟨rfl, rfl⟩; rfl)).mono ?_
      rintro _ _ ⟨_, ⟨rfl, rfl⟩, rfl⟩
      exact ⟨rfl, rfl⟩
    · refine (MC.frame (M := MW E ma thr ask2 fnd fm nr rw0 (N : Int) (wd : Int) it md0 mm2 ua uw ((List.length H : Nat) : Int) kp kni kwi pi pd (nd : Int) ab pal) [0, 1] (c_X7_put_no E fnd ask2 (wd : Int) (N : Int) mm2 ((List.length H : Nat) : Int) (nd : Int) fm (ma 0) (ma 1) (ma 2) (ma 3) (ma 4) (ma 5) (ma 6) (ma 7) (ma 8) (ma 9) (ma 10) (ma 11) (ma 12) thr pd pal z1 c (iI z2) (by omega) hz1 (by omega)) rfl rfl (by rintro _ _ ⟨rfl, rfl⟩; rfl)).mono ?_
      rintro _ _ ⟨_, ⟨rfl, rfl⟩, rfl⟩
      exact ⟨rfl, rfl⟩
    · rintro _ _ rfl rfl
      exact ⟨ra, ia, (rf c fnd), ask, (rm c fm), nr, rr, wd, N, nc, f, sh, mm, w, pl, H, hp, hq, kw, kn, kf, nd, pa, de, sz, fi, mt, md, mi, tw, tb, tn, tf, tsh, tmm, tws, tpl, 0, ask2, rw0, it, md0, mm2, ua, uw, kp, kni, kwi, pi, pd, ab, pal, rfl, rfl, hA, hR, hX, hK, hF, hask, hmm⟩

set_option maxRecDepth 100000 in
set_option maxHeartbeats 4000000 in
theorem st_undo (E : jD) (ad ma : Nat → Nat) (C M : va_W) (hRel : Rel E ad ma C M)   : StepI E ad ma Y_X6_undo Y_X7_undo [.ref (ad 0)] [.ref (ma 0)] C M := by
  refine Rel_elim (P := fun C M => StepI E ad ma Y_X6_undo Y_X7_undo [.ref (ad 0)] [.ref (ma 0)] C M) hRel ?_
  intro ra ia fnd ask fm nr rr wd N nc f sh mm w pl H hp hq kw kn kf nd pa de sz fi mt md mi tw tb tn tf tsh tmm tws tpl thr ask2 rw0 it md0 mm2 ua uw kp kni kwi pi pd ab pal hA hR hX hK hF hask hmm
  have hn := iX_n hX
  by_cases h0 : H = []
  · subst h0
    refine ⟨iI (rz (-2)), (fun N0 => N0 = CW E ad ra ia fnd ask fm nr rr (wd : Int) ((nB N wd : Nat) : Int) nc f sh mm w pl ((List.length ([] : List (Nat × Int32)) : Nat) : Int) hp hq kw kn kf (nd : Int) pa de sz fi mt md mi tw tb tn tf tsh tmm tws tpl), (fun N0 => N0 = MW E ma 0 ask2 fnd fm nr rw0 (N : Int) (wd : Int) it md0 mm2 ua uw ((List.length ([] : List (Nat × Int32)) : Nat) : Int) kp kni kwi pi pd (nd : Int) ab pal), ?_, fun N0 h => by subst h; rfl, ?_, fun N0 h => by subst h; rfl, ?_⟩
    · refine (MC.frame (M := CW E ad ra ia fnd ask fm nr rr (wd : Int) ((nB N wd : Nat) : Int) nc f sh mm w pl ((List.length ([] : List (Nat × Int32)) : Nat) : Int) hp hq kw kn kf (nd : Int) pa de sz fi mt md mi tw tb tn tf tsh tmm tws tpl) [0, 24] (c_X6_undo_no E (ad 0) (ad 1) (ad 17) (ad 24) (ad 10) (ad 27) (ad 42) (ad 25) (ad 26) fnd ask ((List.length ([] : List (Nat × Int32)) : Nat) : Int) (-2) rfl (by omega)) rfl rfl (by rintro _ _ ⟨rfl, rfl⟩; rfl)).mono ?_
      rintro _ _ ⟨_, ⟨rfl, rfl⟩, rfl⟩
      exact ⟨rfl, rfl⟩
    · refine (MC.frame (M := MW E ma thr ask2 fnd fm nr rw0 (N : Int) (wd : Int) it md0 mm2 ua uw ((List.length ([] : List (Nat × Int32)) : Nat) : Int) kp kni kwi pi pd (nd : Int) ab pal) [0] (c_X7_undo_no E fnd ask2 (wd : Int) (N : Int) mm2 ((List.length ([] : List (Nat × Int32)) : Nat) : Int) (nd : Int) (ma 0) (ma 1) (ma 2) (ma 3) (ma 4) (ma 5) (ma 6) (ma 7) (ma 8) (ma 9) (ma 10) (ma 11) (ma 12) thr pd pal (-2) rfl (by omega)) rfl rfl (by rintro _ _ ⟨rfl, rfl⟩; rfl)).mono ?_
      rintro _ _ ⟨_, ⟨rfl, rfl⟩, rfl⟩
      exact ⟨rfl, rfl⟩
    · rintro _ _ rfl rfl
      exact ⟨ra, ia, fnd, ask, fm, nr, rr, wd, N, nc, f, sh, mm, w, pl, ([] : List (Nat × Int32)), hp, hq, kw, kn, kf, nd, pa, de, sz, fi, mt, md, mi, tw, tb, tn, tf, tsh, tmm, tws, tpl, 0, ask2, rw0, it, md0, mm2, ua, uw, kp, kni, kwi, pi, pd, ab, pal, rfl, rfl, hA, hR, hX, hK, hF, hask, hmm⟩
  · obtain ⟨⟨i, x⟩, H, rfl⟩ : ∃ a B, H = a :: B := by
      cases H with
      | nil => exact absurd rfl h0
      | cons a B => exact ⟨a, B, rfl⟩
    rw [List.length_cons] at hn
    obtain ⟨rfl, hfk, hsh, hset, hos, hh1, hh2, hch⟩ := iX_y hX (by omega)
    obtain ⟨q1, q2, q3⟩ := hh1
    obtain ⟨r1, r2, r3⟩ := hh2
    obtain ⟨c1, hi, c3⟩ := hch
    simp only at q1 q2 r1 r2 hi c3
    have hin : wB w (shB (tI (upd f i x)) N wd (i / wd)) = true := chOK_now c3 _ (nB_div (by omega) hi)
    have ew : inW w (shB (tI (upd f i x)) N wd (i / wd)) = w := if_pos hin
    have em : inM w mm (shB (tI (upd f i x)) N wd (i / wd)) = mm := if_pos hin
    have hu : ∀ k, k < N → upd f i x k = upd it i x k := fun k hk => by
      by_cases e : k = i
      · subst e; rw [upd_at, upd_at]
      · rw [upd_ne e, upd_ne e, hfk k hk]
    have hX2 : iX N wd (N : Int) (upd f i (hq H.length)) (upd it i (uw H.length)) (upd sh (i / wd) (iI ((shB (tI (upd f i (hq H.length))) N wd (i / wd)) : Nat))) (inW w (shB (tI (upd f i (hq H.length))) N wd (i / wd))) md0 H hp hq ua uw := by
      rw [q2, r2, ew]
      refine Or.inr ⟨by omega, by omega, by omega, by omega, rfl, hu, fun b hb => ?_, hset, hos, by omega, q3, r3, c3⟩
      by_cases eb : b = i / wd
      · subst eb; rw [upd_at]
      · rw [upd_ne eb, hsh b hb, shB_other (by omega) eb]
    have hmm2 : inM w mm (shB (tI (upd f i (hq H.length))) N wd (i / wd)) = mm2 := by rw [q2, em, hmm]
    refine ⟨iI (((List.length H : Nat) : Int)), (fun N0 => ∃ pl2, N0 = CW E ad ra ia fnd ask fm nr rr (wd : Int) ((nB N wd : Nat) : Int) (N : Int) (upd f i (hq H.length)) (upd sh (i / wd) (iI ((shB (tI (upd f i (hq H.length))) N wd (i / wd)) : Nat))) (inM w mm (shB (tI (upd f i (hq H.length))) N wd (i / wd))) (inW w (shB (tI (upd f i (hq H.length))) N wd (i / wd))) pl2 ((List.length H : Nat) : Int) hp hq kw kn kf (nd : Int) pa de sz fi mt md mi tw tb tn tf tsh tmm tws tpl), (fun N0 => N0 = MW E ma 0 ask2 fnd fm nr rw0 (N : Int) (wd : Int) (upd it i (uw H.length)) md0 mm2 ua uw ((List.length H : Nat) : Int) kp kni kwi pi pd (nd : Int) ab pal), ?_, fun N0 h => by obtain ⟨_, rfl⟩ := h; rfl, ?_, fun N0 h => by subst h; rfl, ?_⟩
    · refine (MC.frame (M := CW E ad ra ia fnd ask fm nr rr (wd : Int) ((nB N wd : Nat) : Int) (N : Int) f sh mm w pl ((List.length ((i, x) :: H) : Nat) : Int) hp hq kw kn kf (nd : Int) pa de sz fi mt md mi tw tb tn tf tsh tmm tws tpl) [0, 17, 18, 19, 20, 21, 22, 23, 24, 25, 26] (c_X6_undo_ok E (ad 0) (ad 1) (ad 17) (ad 24) (ad 10) (ad 27) (ad 42) (ad 18) (ad 19) (ad 20) (ad 21) (ad 22) (ad 23) (ad 25) (ad 26) fnd ask ((nB N wd : Nat) : Int) mm f sh pl hp hq w N wd i H.length (by omega) (by omega) hi (by omega) q1) rfl rfl (by rintro _ _ ⟨pl2, rfl, rfl⟩; rfl)).mono ?_
      rintro _ _ ⟨_, ⟨pl2, rfl, rfl⟩, rfl⟩
      exact ⟨rfl, ⟨pl2, rfl⟩⟩
    · refine (MC.frame (M := MW E ma thr ask2 fnd fm nr rw0 (N : Int) (wd : Int) it md0 mm2 ua uw ((List.length ((i, x) :: H) : Nat) : Int) kp kni kwi pi pd (nd : Int) ab pal) [0, 4, 6, 7] (c_X7_undo_ok E fnd ask2 (wd : Int) (N : Int) mm2 (nd : Int) (ma 0) (ma 1) (ma 2) (ma 3) (ma 4) (ma 5) (ma 6) (ma 7) (ma 8) (ma 9) (ma 10) (ma 11) (ma 12) thr pd pal it ua uw i H.length (by omega) (by omega) r1) rfl rfl (by rintro _ _ ⟨rfl, rfl⟩; rfl)).mono ?_
      rintro _ _ ⟨_, ⟨rfl, rfl⟩, rfl⟩
      exact ⟨rfl, rfl⟩
    · rintro _ _ ⟨pl2, rfl⟩ rfl
      exact ⟨ra, ia, fnd, ask, fm, nr, rr, wd, N, (N : Int), (upd f i (hq H.length)), (upd sh (i / wd) (iI ((shB (tI (upd f i (hq H.length))) N wd (i / wd)) : Nat))), (inM w mm (shB (tI (upd f i (hq H.length))) N wd (i / wd))), (inW w (shB (tI (upd f i (hq H.length))) N wd (i / wd))), pl2, H, hp, hq, kw, kn, kf, nd, pa, de, sz, fi, mt, md, mi, tw, tb, tn, tf, tsh, tmm, tws, tpl, 0, ask2, rw0, (upd it i (uw H.length)), md0, mm2, ua, uw, kp, kni, kwi, pi, pd, ab, pal, rfl, rfl, hA, hR, hX2, hK, hF, hask, hmm2⟩
