def PW (E : jD) (ad : Nat → Nat) (ra : Nat → Option Nat) (ia : Nat → Option Nat) (fnd : Int) (ask : Int) (fm : Nat → Int) (nr : Nat → Int) (rr : Nat → Nat → Int32) (wd : Int) (bl : Int) (nc : Int) (f : Nat → Int32) (sh : Nat → Int32) (mm : Int) (w : Nat → Int64) (pl : Nat → Int32) (um : Int) (hp : Nat → Int32) (hq : Nat → Int32) (kw : Nat → Int) (kn : Nat → Int) (kf : Nat → Nat → Int32) (nd : Int) (pa : Nat → Int32) (de : Nat → Int32) (sz : Nat → Int32) (fi : Nat → Int32) (mt : Nat → Int32) (md : Int) (mi : Nat → Int32) (tw : Int) (tb : Int) (tn : Int) (tf : Nat → Int32) (tsh : Nat → Int32) (tmm : Int) (tws : Nat → Int64) (tpl : Nat → Int32) : va_W := [((ad 0), jO 6 [.ref (ad 1), .ref (ad 17), .ref (ad 24), .ref (ad 10), .ref (ad 27), .ref (ad 42), .int (iI fnd), .int (iI ask)]), ((ad 1), jR E 2 4 ra), ((ad 2), jO 4 [.ref (ad 3), .int (iI (nr 0))]), ((ad 4), jO 4 [.ref (ad 5), .int (iI (nr 1))]), ((ad 6), jO 4 [.ref (ad 7), .int (iI (nr 2))]), ((ad 8), jO 4 [.ref (ad 9), .int (iI (nr 3))]), ((ad 3), jA E 48 (rr 0)), ((ad 5), jA E 48 (rr 1)), ((ad 7), jA E 48 (rr 2)), ((ad 9), jA E 48 (rr 3)), ((ad 17), jO 3 [.ref (ad 18), .ref (ad 20), .ref (ad 21), .ref (ad 23), .int (iI wd), .int (iI bl)]), ((ad 18), jO 4 [.ref (ad 19), .int (iI nc)]), ((ad 19), jA E 48 f), ((ad 20), jA E 48 sh)] ++ [((ad 10), jR E 3 2 ia), ((ad 11), jO 2 [.ref (ad 12), .int (iI (kw 0))]), ((ad 12), jO 4 [.ref (ad 13), .int (iI (kn 0))]), ((ad 13), jA E 48 (kf 0)), ((ad 14), jO 2 [.ref (ad 15), .int (iI (kw 1))]), ((ad 15), jO 4 [.ref (ad 16), .int (iI (kn 1))]), ((ad 16), jA E 48 (kf 1)), ((ad 21), jO 5 [.ref (ad 22), .int (iI mm)]), ((ad 22), jL E 64 w), ((ad 23), jA E 6 pl), ((ad 24), jO 1 [.ref (ad 25), .ref (ad 26), .int (iI um)]), ((ad 25), jA E 10 hp), ((ad 26), jA E 10 hq), ((ad 27), jO 0 [.ref (ad 28), .ref (ad 29), .ref (ad 30), .ref (ad 31), .ref (ad 32), .ref (ad 33), .ref (ad 35), .int (iI nd)]), ((ad 28), jA E 24 pa), ((ad 29), jA E 24 de), ((ad 30), jA E 24 sz), ((ad 31), jA E 24 fi), ((ad 32), jA E 47 mt), ((ad 33), jO 4 [.ref (ad 34), .int (iI md)]), ((ad 34), jA E 48 mi), ((ad 35), jO 3 [.ref (ad 36), .ref (ad 38), .ref (ad 39), .ref (ad 41), .int (iI tw), .int (iI tb)]), ((ad 36), jO 4 [.ref (ad 37), .int (iI tn)]), ((ad 37), jA E 48 tf), ((ad 38), jA E 48 tsh), ((ad 39), jO 5 [.ref (ad 40), .int (iI tmm)]), ((ad 40), jL E 64 tws), ((ad 41), jA E 6 tpl), ((ad 42), jA E 5 (aI fm))]

set_option maxRecDepth 100000 in
set_option maxHeartbeats 4000000 in
theorem cw_cnt (E : jD) (ad : Nat → Nat) (ra : Nat → Option Nat) (ia : Nat → Option Nat) (fnd : Int) (ask : Int) (fm : Nat → Int) (nr : Nat → Int) (rr : Nat → Nat → Int32) (wd : Nat) (N : Nat) (nc : Int) (f : Nat → Int32) (sh : Nat → Int32) (mm : Int) (w : Nat → Int64) (pl : Nat → Int32) (H : List (Nat × Int32)) (hp : Nat → Int32) (hq : Nat → Int32) (kw : Nat → Int) (kn : Nat → Int) (kf : Nat → Nat → Int32) (nd : Nat) (pa : Nat → Int32) (de : Nat → Int32) (sz : Nat → Int32) (fi : Nat → Int32) (mt : Nat → Int32) (md : Int) (mi : Nat → Int32) (tw : Int) (tb : Int) (tn : Int) (tf : Nat → Int32) (tsh : Nat → Int32) (tmm : Int) (tws : Nat → Int64) (tpl : Nat → Int32) (hra : ∀ r, r < 4 → ra r = some (ad (2 + 2 * r))) (hnr : ∀ r, r < 4 → -1 ≤ nr r ∧ nr r ≤ 48) (hnc : (N = 0 ∧ nc = -1) ∨ nc = (N : Int)) (hN : N ≤ 48) (h48 : nB N wd ≤ 48) : ∀ k, k < 10 → MC E Y_X6_count [.ref (ad 0), .int (iI ((k : Nat) : Int))] (PW E ad ra ia fnd ask fm nr rr (wd : Int) ((nB N wd : Nat) : Int) nc f sh mm w pl ((List.length H : Nat) : Int) hp hq kw kn kf (nd : Int) pa de sz fi mt md mi tw tb tn tf tsh tmm tws tpl) (fun r N0 => r = some (.int (iI ((cmF (N : Int) (wd : Int) ((nB N wd : Nat) : Int) ((unF (tI sh) (nB N wd) : Nat) : Int) ((lvF (nB N wd) 7 1 : Nat) : Int) mm (biF (tI sh) wd (nB N wd)) ((List.length H : Nat) : Int) ((rwF nr 4 : Nat) : Int) (nd : Int)) k))) ∧ N0 = PW E ad ra ia fnd ask fm nr rr (wd : Int) ((nB N wd : Nat) : Int) nc f sh mm w pl ((List.length H : Nat) : Int) hp hq kw kn kf (nd : Int) pa de sz fi mt md mi tw tb tn tf tsh tmm tws tpl) := by
  intro k hk
  match k, hk with
  | 0, _ =>
    refine (MC.frame (M := PW E ad ra ia fnd ask fm nr rr (wd : Int) ((nB N wd : Nat) : Int) nc f sh mm w pl ((List.length H : Nat) : Int) hp hq kw kn kf (nd : Int) pa de sz fi mt md mi tw tb tn tf tsh tmm tws tpl) [0, 10, 11] (c_X6_count_0 E (ad 0) (ad 1) (ad 17) (ad 24) (ad 10) (ad 27) (ad 42) (ad 18) (ad 19) (ad 20) (ad 21) (ad 23) fnd ask (wd : Int) ((nB N wd : Nat) : Int) nc (by omega)) rfl rfl (by rintro _ _ ⟨rfl, rfl⟩; rfl)).mono ?_
    rintro _ _ ⟨_, ⟨rfl, rfl⟩, rfl⟩
    refine ⟨congrArg (fun z => some (Value.int (iI z))) ?_, rfl⟩
    show (if nc < 0 then 0 else nc) = (N : Int)
    rcases hnc with ⟨h1, h2⟩ | h2
    · rw [if_pos (by omega)]; omega
    · rw [if_neg (by omega), h2]
  | 1, _ =>
    refine (MC.frame (M := PW E ad ra ia fnd ask fm nr rr (wd : Int) ((nB N wd : Nat) : Int) nc f sh mm w pl ((List.length H : Nat) : Int) hp hq kw kn kf (nd : Int) pa de sz fi mt md mi tw tb tn tf tsh tmm tws tpl) [0, 10] (c_X6_count_1 E (ad 0) (ad 1) (ad 17) (ad 24) (ad 10) (ad 27) (ad 42) (ad 18) (ad 20) (ad 21) (ad 23) fnd ask (wd : Int) ((nB N wd : Nat) : Int)) rfl rfl (by rintro _ _ ⟨rfl, rfl⟩; rfl)).mono ?_
    rintro _ _ ⟨_, ⟨rfl, rfl⟩, rfl⟩
    exact ⟨rfl, rfl⟩
  | 2, _ =>
    refine (MC.frame (M := PW E ad ra ia fnd ask fm nr rr (wd : Int) ((nB N wd : Nat) : Int) nc f sh mm w pl ((List.length H : Nat) : Int) hp hq kw kn kf (nd : Int) pa de sz fi mt md mi tw tb tn tf tsh tmm tws tpl) [0, 10] (c_X6_count_2 E (ad 0) (ad 1) (ad 17) (ad 24) (ad 10) (ad 27) (ad 42) (ad 18) (ad 20) (ad 21) (ad 23) fnd ask (wd : Int) ((nB N wd : Nat) : Int)) rfl rfl (by rintro _ _ ⟨rfl, rfl⟩; rfl)).mono ?_
    rintro _ _ ⟨_, ⟨rfl, rfl⟩, rfl⟩
    exact ⟨rfl, rfl⟩
  | 3, _ =>
    refine (MC.frame (M := PW E ad ra ia fnd ask fm nr rr (wd : Int) ((nB N wd : Nat) : Int) nc f sh mm w pl ((List.length H : Nat) : Int) hp hq kw kn kf (nd : Int) pa de sz fi mt md mi tw tb tn tf tsh tmm tws tpl) [0, 10, 13] (c_X6_count_3 E (ad 0) (ad 1) (ad 17) (ad 24) (ad 10) (ad 27) (ad 42) (ad 18) (ad 20) (ad 21) (ad 23) fnd ask (wd : Int) sh (nB N wd) (by omega)) rfl rfl (by rintro _ _ ⟨rfl, rfl⟩; rfl)).mono ?_
    rintro _ _ ⟨_, ⟨rfl, rfl⟩, rfl⟩
    exact ⟨rfl, rfl⟩
  | 4, _ =>
    refine (MC.frame (M := PW E ad ra ia fnd ask fm nr rr (wd : Int) ((nB N wd : Nat) : Int) nc f sh mm w pl ((List.length H : Nat) : Int) hp hq kw kn kf (nd : Int) pa de sz fi mt md mi tw tb tn tf tsh tmm tws tpl) [0, 10] (c_X6_count_4 E (ad 0) (ad 1) (ad 17) (ad 24) (ad 10) (ad 27) (ad 42) (ad 18) (ad 20) (ad 21) (ad 23) fnd ask (wd : Int) (nB N wd) (by omega)) rfl rfl (by rintro _ _ ⟨rfl, rfl⟩; rfl)).mono ?_
    rintro _ _ ⟨_, ⟨rfl, rfl⟩, rfl⟩
    exact ⟨rfl, rfl⟩
  | 5, _ =>
    refine (MC.frame (M := PW E ad ra ia fnd ask fm nr rr (wd : Int) ((nB N wd : Nat) : Int) nc f sh mm w pl ((List.length H : Nat) : Int) hp hq kw kn kf (nd : Int) pa de sz fi mt md mi tw tb tn tf tsh tmm tws tpl) [0, 10, 21] (c_X6_count_5 E (ad 0) (ad 1) (ad 17) (ad 24) (ad 10) (ad 27) (ad 42) (ad 18) (ad 20) (ad 21) (ad 22) (ad 23) fnd ask (wd : Int) ((nB N wd : Nat) : Int) mm) rfl rfl (by rintro _ _ ⟨rfl, rfl⟩; rfl)).mono ?_
    rintro _ _ ⟨_, ⟨rfl, rfl⟩, rfl⟩
    exact ⟨rfl, rfl⟩
  | 6, _ =>
    refine (MC.frame (M := PW E ad ra ia fnd ask fm nr rr (wd : Int) ((nB N wd : Nat) : Int) nc f sh mm w pl ((List.length H : Nat) : Int) hp hq kw kn kf (nd : Int) pa de sz fi mt md mi tw tb tn tf tsh tmm tws tpl) [0, 10, 13] (c_X6_count_6 E (ad 0) (ad 1) (ad 17) (ad 24) (ad 10) (ad 27) (ad 42) (ad 18) (ad 20) (ad 21) (ad 23) fnd ask sh (nB N wd) wd (by omega)) rfl rfl (by rintro _ _ ⟨rfl, rfl⟩; rfl)).mono ?_
    rintro _ _ ⟨_, ⟨rfl, rfl⟩, rfl⟩
    exact ⟨rfl, rfl⟩
  | 7, _ =>
    refine (MC.frame (M := PW E ad ra ia fnd ask fm nr rr (wd : Int) ((nB N wd : Nat) : Int) nc f sh mm w pl ((List.length H : Nat) : Int) hp hq kw kn kf (nd : Int) pa de sz fi mt md mi tw tb tn tf tsh tmm tws tpl) [0, 24] (c_X6_count_7 E (ad 0) (ad 1) (ad 17) (ad 24) (ad 10) (ad 27) (ad 42) (ad 25) (ad 26) fnd ask ((H.length : Nat) : Int)) rfl rfl (by rintro _ _ ⟨rfl, rfl⟩; rfl)).mono ?_
    rintro _ _ ⟨_, ⟨rfl, rfl⟩, rfl⟩
    exact ⟨rfl, rfl⟩
  | 8, _ =>
    refine (MC.frame (M := PW E ad ra ia fnd ask fm nr rr (wd : Int) ((nB N wd : Nat) : Int) nc f sh mm w pl ((List.length H : Nat) : Int) hp hq kw kn kf (nd : Int) pa de sz fi mt md mi tw tb tn tf tsh tmm tws tpl) [0, 1, 2, 3, 4, 5] (c_X6_count_8 E (ad 0) (ad 1) (ad 17) (ad 24) (ad 10) (ad 27) (ad 42) fnd ask ra (fun r => ad (2 + 2 * r)) (fun r => ad (3 + 2 * r)) nr hra hnr) rfl rfl (by rintro _ _ ⟨rfl, rfl⟩; rfl)).mono ?_
    rintro _ _ ⟨_, ⟨rfl, rfl⟩, rfl⟩
    exact ⟨rfl, rfl⟩
  | 9, _ =>
    refine (MC.frame (M := PW E ad ra ia fnd ask fm nr rr (wd : Int) ((nB N wd : Nat) : Int) nc f sh mm w pl ((List.length H : Nat) : Int) hp hq kw kn kf (nd : Int) pa de sz fi mt md mi tw tb tn tf tsh tmm tws tpl) [0, 27] (c_X6_count_9 E (ad 0) (ad 1) (ad 17) (ad 24) (ad 10) (ad 27) (ad 42) (ad 28) (ad 29) (ad 30) (ad 31) (ad 32) (ad 33) (ad 35) fnd ask (nd : Int)) rfl rfl (by rintro _ _ ⟨rfl, rfl⟩; rfl)).mono ?_
    rintro _ _ ⟨_, ⟨rfl, rfl⟩, rfl⟩
    exact ⟨rfl, rfl⟩

set_option maxRecDepth 100000 in
set_option maxHeartbeats 4000000 in
theorem pw_sub (E : jD) (ad : Nat → Nat) (ra : Nat → Option Nat) (ia : Nat → Option Nat) (fnd : Int) (ask : Int) (fm : Nat → Int) (nr : Nat → Int) (rr : Nat → Nat → Int32) (wd : Nat) (N : Nat) (nc : Int) (f : Nat → Int32) (sh : Nat → Int32) (mm : Int) (w : Nat → Int64) (pl : Nat → Int32) (H : List (Nat × Int32)) (hp : Nat → Int32) (hq : Nat → Int32) (kw : Nat → Int) (kn : Nat → Int) (kf : Nat → Nat → Int32) (nd : Nat) (pa : Nat → Int32) (de : Nat → Int32) (sz : Nat → Int32) (fi : Nat → Int32) (mt : Nat → Int32) (md : Int) (mi : Nat → Int32) (tw : Int) (tb : Int) (tn : Int) (tf : Nat → Int32) (tsh : Nat → Int32) (tmm : Int) (tws : Nat → Int64) (tpl : Nat → Int32) : [0, 1, 2, 4, 6, 8, 3, 5, 7, 9, 17, 18, 19, 20, 10, 11, 12, 13, 14, 15, 16, 21, 22, 23, 24, 25, 26, 27, 28, 29, 30, 31, 32, 33, 34, 35, 36, 37, 38, 39, 40, 41, 42].map (fun i => (CW E ad ra ia fnd ask fm nr rr (wd : Int) ((nB N wd : Nat) : Int) nc f sh mm w pl ((List.length H : Nat) : Int) hp hq kw kn kf (nd : Int) pa de sz fi mt md mi tw tb tn tf tsh tmm tws tpl)[i]?) = List.map some (PW E ad ra ia fnd ask fm nr rr (wd : Int) ((nB N wd : Nat) : Int) nc f sh mm w pl ((List.length H : Nat) : Int) hp hq kw kn kf (nd : Int) pa de sz fi mt md mi tw tb tn tf tsh tmm tws tpl) := rfl

set_option maxRecDepth 100000 in
set_option maxHeartbeats 4000000 in
theorem st_count (E : jD) (ad ma : Nat → Nat) (C M : va_W) (hRel : Rel E ad ma C M) (z1 : Int) (hz1 : jr z1) : StepI E ad ma Y_X6_count Y_X7_count [.ref (ad 0), .int (iI z1)] [.ref (ma 0), .int (iI z1)] C M := by
  refine Rel_elim (P := fun C M => StepI E ad ma Y_X6_count Y_X7_count [.ref (ad 0), .int (iI z1)] [.ref (ma 0), .int (iI z1)] C M) hRel ?_
  intro ra ia fnd ask fm nr rr wd N nc f sh mm w pl H hp hq kw kn kf nd pa de sz fi mt md mi tw tb tn tf tsh tmm tws tpl thr ask2 rw0 it md0 mm2 ua uw kp kni kwi pi pd ab pal hA hR hX hK hF hask hmm
  have hn := iX_n hX
  have h48 := nB_48 (n := N) (wd := wd) (by omega)
  have hnr : ∀ r, r < 4 → -1 ≤ nr r ∧ nr r ≤ 48 := fun r hr => (hR r hr).1
  have hsq : ∀ b, b < nB N wd → tI sh b = ((shB (tI it) N wd b : Nat) : Int) := by
    intro b hb
    by_cases h0 : N = 0
    · subst h0
      have h1 : wd = 0 := by omega
      subst h1
      exact absurd hb (Nat.not_lt_zero _)
    · obtain ⟨rfl, hfk, hsh, hset, hos, hh1, hh2, hch⟩ := iX_y hX (by omega)
      have hs := shB_lt (tI f) N (w := wd) b (by omega)
      show (sh b).toInt = _
      rw [hsh b hb, ← shB_cg (tI_cg hfk)]
      exact iI_t ⟨by omega, by omega⟩
  have hV : (cmF (N : Int) (wd : Int) ((nB N wd : Nat) : Int) ((unF (fun b => ((shB (tI it) N wd b : Nat) : Int)) (nB N wd) : Nat) : Int) ((lvF (nB N wd) 7 1 : Nat) : Int) mm2 (biF (fun b => ((shB (tI it) N wd b : Nat) : Int)) wd (nB N wd)) ((List.length H : Nat) : Int) ((rwF nr 4 : Nat) : Int) (nd : Int)) = (cmF (N : Int) (wd : Int) ((nB N wd : Nat) : Int) ((unF (tI sh) (nB N wd) : Nat) : Int) ((lvF (nB N wd) 7 1 : Nat) : Int) mm (biF (tI sh) wd (nB N wd)) ((List.length H : Nat) : Int) ((rwF nr 4 : Nat) : Int) (nd : Int)) := by
    rw [unF_cg (nB N wd) hsq, biF_cg wd (nB N wd) hsq, hmm]
  by_cases hok : 0 ≤ z1 ∧ z1 ≤ 9
  · obtain ⟨k, rfl⟩ : ∃ q : Nat, z1 = (q : Int) := ⟨z1.toNat, by omega⟩
    refine ⟨iI ((cmF (N : Int) (wd : Int) ((nB N wd : Nat) : Int) ((unF (tI sh) (nB N wd) : Nat) : Int) ((lvF (nB N wd) 7 1 : Nat) : Int) mm (biF (tI sh) wd (nB N wd)) ((List.length H : Nat) : Int) ((rwF nr 4 : Nat) : Int) (nd : Int)) k), (fun N0 => N0 = CW E ad ra ia fnd ask fm nr rr (wd : Int) ((nB N wd : Nat) : Int) nc f sh mm w pl ((List.length H : Nat) : Int) hp hq kw kn kf (nd : Int) pa de sz fi mt md mi tw tb tn tf tsh tmm tws tpl), (fun N0 => ∃ pd2 pi2, N0 = MW E ma 0 ask2 fnd fm nr rw0 (N : Int) (wd : Int) it md0 mm2 ua uw ((List.length H : Nat) : Int) kp kni kwi pi2 pd2 (nd : Int) ab pal), ?_, fun N0 h => by subst h; rfl, ?_, fun N0 h => by obtain ⟨_, _, rfl⟩ := h; rfl, ?_⟩
    · refine (MC.frame (M := CW E ad ra ia fnd ask fm nr rr (wd : Int) ((nB N wd : Nat) : Int) nc f sh mm w pl ((List.length H : Nat) : Int) hp hq kw kn kf (nd : Int) pa de sz fi mt md mi tw tb tn tf tsh tmm tws tpl) [0, 1, 2, 4, 6, 8, 3, 5, 7, 9, 17, 18, 19, 20, 10, 11, 12, 13, 14, 15, 16, 21, 22, 23, 24, 25, 26, 27, 28, 29, 30, 31, 32, 33, 34, 35, 36, 37, 38, 39, 40, 41, 42] (cw_cnt E ad ra ia fnd ask fm nr rr wd N nc f sh mm w pl H hp hq kw kn kf nd pa de sz fi mt md mi tw tb tn tf tsh tmm tws tpl hA.1 hnr (by omega) (by omega) h48 k (by omega)) (pw_sub E ad ra ia fnd ask fm nr rr wd N nc f sh mm w pl H hp hq kw kn kf nd pa de sz fi mt md mi tw tb tn tf tsh tmm tws tpl) rfl (fun rr0 N0 h => by rw [h.2]; rfl)).mono ?_
      intro rr0 N0 h
      obtain ⟨Nc, h1, h2⟩ := h
      obtain ⟨e1, e2⟩ := h1
      subst e2
      exact ⟨e1, h2.trans (jput_same (pw_sub E ad ra ia fnd ask fm nr rr wd N nc f sh mm w pl H hp hq kw kn kf nd pa de sz fi mt md mi tw tb tn tf tsh tmm tws tpl))⟩
    · refine (MC.frame (M := MW E ma thr ask2 fnd fm nr rw0 (N : Int) (wd : Int) it md0 mm2 ua uw ((List.length H : Nat) : Int) kp kni kwi pi pd (nd : Int) ab pal) [0, 2, 3, 4, 11] (c_X7_count_ok E fnd ask2 mm2 ((List.length H : Nat) : Int) (nd : Int) (ma 0) (ma 1) (ma 2) (ma 3) (ma 4) (ma 5) (ma 6) (ma 7) (ma 8) (ma 9) (ma 10) (ma 11) (ma 12) thr pd pal nr rw0 it pi N wd k (by omega) hnr (by omega)) rfl rfl (by rintro _ _ ⟨pd2, pi2, rfl, rfl⟩; rfl)).mono ?_
      rintro _ _ ⟨_, ⟨pd2, pi2, rfl, rfl⟩, rfl⟩
      exact ⟨congrArg (fun z => some (Value.int (iI z))) (by rw [hV]), ⟨pd2, pi2, rfl⟩⟩
    · rintro _ _ rfl ⟨pd2, pi2, rfl⟩
      exact ⟨ra, ia, fnd, ask, fm, nr, rr, wd, N, nc, f, sh, mm, w, pl, H, hp, hq, kw, kn, kf, nd, pa, de, sz, fi, mt, md, mi, tw, tb, tn, tf, tsh, tmm, tws, tpl, 0, ask2, rw0, it, md0, mm2, ua, uw, kp, kni, kwi, pi2, pd2, ab, pal, rfl, rfl, hA, hR, hX, hK, hF, hask, hmm⟩
  · refine ⟨iI (-1), (fun N0 => N0 = CW E ad ra ia fnd ask fm nr rr (wd : Int) ((nB N wd : Nat) : Int) nc f sh mm w pl ((List.length H : Nat) : Int) hp hq kw kn kf (nd : Int) pa de sz fi mt md mi tw tb tn tf tsh tmm tws tpl), (fun N0 => N0 = MW E ma 0 ask2 fnd fm nr rw0 (N : Int) (wd : Int) it md0 mm2 ua uw ((List.length H : Nat) : Int) kp kni kwi pi pd (nd : Int) ab pal), ?_, fun N0 h => by subst h; rfl, ?_, fun N0 h => by subst h; rfl, ?_⟩
    · refine (MC.frame (M := CW E ad ra ia fnd ask fm nr rr (wd : Int) ((nB N wd : Nat) : Int) nc f sh mm w pl ((List.length H : Nat) : Int) hp hq kw kn kf (nd : Int) pa de sz fi mt md mi tw tb tn tf tsh tmm tws tpl) [0] (c_X6_count_bad E (ad 0) (ad 1) (ad 17) (ad 24) (ad 10) (ad 27) (ad 42) fnd ask z1 hz1 (by omega)) rfl rfl (by rintro _ _ ⟨rfl, rfl⟩; rfl)).mono ?_
      rintro _ _ ⟨_, ⟨rfl, rfl⟩, rfl⟩
      exact ⟨rfl, rfl⟩
    · refine (MC.frame (M := MW E ma thr ask2 fnd fm nr rw0 (N : Int) (wd : Int) it md0 mm2 ua uw ((List.length H : Nat) : Int) kp kni kwi pi pd (nd : Int) ab pal) [0] (c_X7_count_bad E fnd ask2 (wd : Int) (N : Int) mm2 ((List.length H : Nat) : Int) (nd : Int) (ma 0) (ma 1) (ma 2) (ma 3) (ma 4) (ma 5) (ma 6) (ma 7) (ma 8) (ma 9) (ma 10) (ma 11) (ma 12) thr pd pal z1 hz1 (by omega)) rfl rfl (by rintro _ _ ⟨rfl, rfl⟩; rfl)).mono ?_
      rintro _ _ ⟨_, ⟨rfl, rfl⟩, rfl⟩
      exact ⟨rfl, rfl⟩
    · rintro _ _ rfl rfl
      exact ⟨ra, ia, fnd, ask, fm, nr, rr, wd, N, nc, f, sh, mm, w, pl, H, hp, hq, kw, kn, kf, nd, pa, de, sz, fi, mt, md, mi, tw, tb, tn, tf, tsh, tmm, tws, tpl, 0, ask2, rw0, it, md0, mm2, ua, uw, kp, kni, kwi, pi, pd, ab, pal, rfl, rfl, hA, hR, hX, hK, hF, hask, hmm⟩

set_option maxRecDepth 100000 in
set_option maxHeartbeats 4000000 in
theorem st_digest (E : jD) (ad ma : Nat → Nat) (C M : va_W) (hRel : Rel E ad ma C M)   : StepL E ad ma Y_X6_digest Y_X7_digest [.ref (ad 0)] [.ref (ma 0)] C M := by
  refine Rel_elim (P := fun C M => StepL E ad ma Y_X6_digest Y_X7_digest [.ref (ad 0)] [.ref (ma 0)] C M) hRel ?_
  intro ra ia fnd ask fm nr rr wd N nc f sh mm w pl H hp hq kw kn kf nd pa de sz fi mt md mi tw tb tn tf tsh tmm tws tpl thr ask2 rw0 it md0 mm2 ua uw kp kni kwi pi pd ab pal hA hR hX hK hF hask hmm
  have hn := iX_n hX
  have h48 := nB_48 (n := N) (wd := wd) (by omega)
  have hnr : ∀ r, r < 4 → -1 ≤ nr r ∧ nr r ≤ 48 := fun r hr => (hR r hr).1
  have hsq : ∀ b, b < nB N wd → tI sh b = ((shB (tI it) N wd b : Nat) : Int) := by
    intro b hb
    by_cases h0 : N = 0
    · subst h0
      have h1 : wd = 0 := by omega
      subst h1
      exact absurd hb (Nat.not_lt_zero _)
    · obtain ⟨rfl, hfk, hsh, hset, hos, hh1, hh2, hch⟩ := iX_y hX (by omega)
      have hs := shB_lt (tI f) N (w := wd) b (by omega)
      show (sh b).toInt = _
      rw [hsh b hb, ← shB_cg (tI_cg hfk)]
      exact iI_t ⟨by omega, by omega⟩
  have hV : (cmF (N : Int) (wd : Int) ((nB N wd : Nat) : Int) ((unF (fun b => ((shB (tI it) N wd b : Nat) : Int)) (nB N wd) : Nat) : Int) ((lvF (nB N wd) 7 1 : Nat) : Int) mm2 (biF (fun b => ((shB (tI it) N wd b : Nat) : Int)) wd (nB N wd)) ((List.length H : Nat) : Int) ((rwF nr 4 : Nat) : Int) (nd : Int)) = (cmF (N : Int) (wd : Int) ((nB N wd : Nat) : Int) ((unF (tI sh) (nB N wd) : Nat) : Int) ((lvF (nB N wd) 7 1 : Nat) : Int) mm (biF (tI sh) wd (nB N wd)) ((List.length H : Nat) : Int) ((rwF nr 4 : Nat) : Int) (nd : Int)) := by
    rw [unF_cg (nB N wd) hsq, biF_cg wd (nB N wd) hsq, hmm]
  have hZ : dgr (dgF (dgF (dgc (cmF (N : Int) (wd : Int) ((nB N wd : Nat) : Int) ((unF (fun b => ((shB (tI it) N wd b : Nat) : Int)) (nB N wd) : Nat) : Int) ((lvF (nB N wd) 7 1 : Nat) : Int) mm2 (biF (fun b => ((shB (tI it) N wd b : Nat) : Int)) wd (nB N wd)) ((List.length H : Nat) : Int) ((rwF nr 4 : Nat) : Int) (nd : Int)) 10) it N) (fun b => iI ((shB (tI it) N wd b : Nat) : Int)) (nB N wd)) nr (fun r k => rw0 (48 * r + k)) 4 = dgr (dgF (dgF (dgc (cmF (N : Int) (wd : Int) ((nB N wd : Nat) : Int) ((unF (tI sh) (nB N wd) : Nat) : Int) ((lvF (nB N wd) 7 1 : Nat) : Int) mm (biF (tI sh) wd (nB N wd)) ((List.length H : Nat) : Int) ((rwF nr 4 : Nat) : Int) (nd : Int)) 10) f nc.toNat) sh (nB N wd)) nr rr 4 := by
    rw [hV]
    have h1 : dgF (dgc (cmF (N : Int) (wd : Int) ((nB N wd : Nat) : Int) ((unF (tI sh) (nB N wd) : Nat) : Int) ((lvF (nB N wd) 7 1 : Nat) : Int) mm (biF (tI sh) wd (nB N wd)) ((List.length H : Nat) : Int) ((rwF nr 4 : Nat) : Int) (nd : Int)) 10) it N = dgF (dgc (cmF (N : Int) (wd : Int) ((nB N wd : Nat) : Int) ((unF (tI sh) (nB N wd) : Nat) : Int) ((lvF (nB N wd) 7 1 : Nat) : Int) mm (biF (tI sh) wd (nB N wd)) ((List.length H : Nat) : Int) ((rwF nr 4 : Nat) : Int) (nd : Int)) 10) f nc.toNat := by
      by_cases h0 : N = 0
      · have e : nc.toNat = 0 := by omega
        rw [h0, e]; rfl
      · obtain ⟨rfl, hfk, hsh, hset, hos, hh1, hh2, hch⟩ := iX_y hX (by omega)
        rw [Int.toNat_natCast]
        exact dgF_cg _ N (fun j hj => (hfk j hj).symm)
    rw [h1, dgF_cg _ (f' := sh) (nB N wd) (fun b hb => by
      show iI ((shB (tI it) N wd b : Nat) : Int) = sh b
      rw [← hsq b hb]
      exact iI_x _)]
    exact dgr_cg _ 4 (fun r hr j hj => ((hR r hr).2 j (by omega)).symm)
  refine ⟨dgr (dgF (dgF (dgc (cmF (N : Int) (wd : Int) ((nB N wd : Nat) : Int) ((unF (tI sh) (nB N wd) : Nat) : Int) ((lvF (nB N wd) 7 1 : Nat) : Int) mm (biF (tI sh) wd (nB N wd)) ((List.length H : Nat) : Int) ((rwF nr 4 : Nat) : Int) (nd : Int)) 10) f nc.toNat) sh (nB N wd)) nr rr 4, (fun N0 => N0 = CW E ad ra ia fnd ask fm nr rr (wd : Int) ((nB N wd : Nat) : Int) nc f sh mm w pl ((List.length H : Nat) : Int) hp hq kw kn kf (nd : Int) pa de sz fi mt md mi tw tb tn tf tsh tmm tws tpl), (fun N0 => ∃ pd2 pi2, N0 = MW E ma 0 ask2 fnd fm nr rw0 (N : Int) (wd : Int) it md0 mm2 ua uw ((List.length H : Nat) : Int) kp kni kwi pi2 pd2 (nd : Int) ab pal), ?_, fun N0 h => by subst h; rfl, ?_, fun N0 h => by obtain ⟨_, _, rfl⟩ := h; rfl, ?_⟩
  · have hD : MC E Y_X6_digest [.ref (ad 0)] (PW E ad ra ia fnd ask fm nr rr (wd : Int) ((nB N wd : Nat) : Int) nc f sh mm w pl ((List.length H : Nat) : Int) hp hq kw kn kf (nd : Int) pa de sz fi mt md mi tw tb tn tf tsh tmm tws tpl) (fun r N0 => r = some (.long (dgr (dgF (dgF (dgc (cmF (N : Int) (wd : Int) ((nB N wd : Nat) : Int) ((unF (tI sh) (nB N wd) : Nat) : Int) ((lvF (nB N wd) 7 1 : Nat) : Int) mm (biF (tI sh) wd (nB N wd)) ((List.length H : Nat) : Int) ((rwF nr 4 : Nat) : Int) (nd : Int)) 10) f nc.toNat) sh (nB N wd)) nr rr 4)) ∧ N0 = PW E ad ra ia fnd ask fm nr rr (wd : Int) ((nB N wd : Nat) : Int) nc f sh mm w pl ((List.length H : Nat) : Int) hp hq kw kn kf (nd : Int) pa de sz fi mt md mi tw tb tn tf tsh tmm tws tpl) := c_X6_digest E (ad 0) (ad 1) (ad 17) (ad 24) (ad 10) (ad 27) (ad 42) (ad 18) (ad 19) (ad 20) (ad 21) (ad 23) fnd ask ra (fun r => ad (2 + 2 * r)) (fun r => ad (3 + 2 * r)) nr rr (wd : Int) (nB N wd) nc f sh [((ad 10), jR E 3 2 ia), ((ad 11), jO 2 [.ref (ad 12), .int (iI (kw 0))]), ((ad 12), jO 4 [.ref (ad 13), .int (iI (kn 0))]), ((ad 13), jA E 48 (kf 0)), ((ad 14), jO 2 [.ref (ad 15), .int (iI (kw 1))]), ((ad 15), jO 4 [.ref (ad 16), .int (iI (kn 1))]), ((ad 16), jA E 48 (kf 1)), ((ad 21), jO 5 [.ref (ad 22), .int (iI mm)]), ((ad 22), jL E 64 w), ((ad 23), jA E 6 pl), ((ad 24), jO 1 [.ref (ad 25), .ref (ad 26), .int (iI ((List.length H : Nat) : Int))]), ((ad 25), jA E 10 hp), ((ad 26), jA E 10 hq), ((ad 27), jO 0 [.ref (ad 28), .ref (ad 29), .ref (ad 30), .ref (ad 31), .ref (ad 32), .ref (ad 33), .ref (ad 35), .int (iI (nd : Int))]), ((ad 28), jA E 24 pa), ((ad 29), jA E 24 de), ((ad 30), jA E 24 sz), ((ad 31), jA E 24 fi), ((ad 32), jA E 47 mt), ((ad 33), jO 4 [.ref (ad 34), .int (iI md)]), ((ad 34), jA E 48 mi), ((ad 35), jO 3 [.ref (ad 36), .ref (ad 38), .ref (ad 39), .ref (ad 41), .int (iI tw), .int (iI tb)]), ((ad 36), jO 4 [.ref (ad 37), .int (iI tn)]), ((ad 37), jA E 48 tf), ((ad 38), jA E 48 tsh), ((ad 39), jO 5 [.ref (ad 40), .int (iI tmm)]), ((ad 40), jL E 64 tws), ((ad 41), jA E 6 tpl), ((ad 42), jA E 5 (aI fm))] (cmF (N : Int) (wd : Int) ((nB N wd : Nat) : Int) ((unF (tI sh) (nB N wd) : Nat) : Int) ((lvF (nB N wd) 7 1 : Nat) : Int) mm (biF (tI sh) wd (nB N wd)) ((List.length H : Nat) : Int) ((rwF nr 4 : Nat) : Int) (nd : Int)) hA.1 hnr (by omega) h48 (cw_cnt E ad ra ia fnd ask fm nr rr wd N nc f sh mm w pl H hp hq kw kn kf nd pa de sz fi mt md mi tw tb tn tf tsh tmm tws tpl hA.1 hnr (by omega) (by omega) h48)
    refine (MC.frame (M := CW E ad ra ia fnd ask fm nr rr (wd : Int) ((nB N wd : Nat) : Int) nc f sh mm w pl ((List.length H : Nat) : Int) hp hq kw kn kf (nd : Int) pa de sz fi mt md mi tw tb tn tf tsh tmm tws tpl) [0, 1, 2, 4, 6, 8, 3, 5, 7, 9, 17, 18, 19, 20, 10, 11, 12, 13, 14, 15, 16, 21, 22, 23, 24, 25, 26, 27, 28, 29, 30, 31, 32, 33, 34, 35, 36, 37, 38, 39, 40, 41, 42] hD (pw_sub E ad ra ia fnd ask fm nr rr wd N nc f sh mm w pl H hp hq kw kn kf nd pa de sz fi mt md mi tw tb tn tf tsh tmm tws tpl) rfl (fun rr0 N0 h => by rw [h.2]; rfl)).mono ?_
    intro rr0 N0 h
    obtain ⟨Nc, h1, h2⟩ := h
    obtain ⟨e1, e2⟩ := h1
    subst e2
    exact ⟨e1, h2.trans (jput_same (pw_sub E ad ra ia fnd ask fm nr rr wd N nc f sh mm w pl H hp hq kw kn kf nd pa de sz fi mt md mi tw tb tn tf tsh tmm tws tpl))⟩
  · refine (MC.frame (M := MW E ma thr ask2 fnd fm nr rw0 (N : Int) (wd : Int) it md0 mm2 ua uw ((List.length H : Nat) : Int) kp kni kwi pi pd (nd : Int) ab pal) [0, 2, 3, 4, 11] (c_X7_digest E fnd ask2 mm2 ((List.length H : Nat) : Int) (nd : Int) (ma 0) (ma 1) (ma 2) (ma 3) (ma 4) (ma 5) (ma 6) (ma 7) (ma 8) (ma 9) (ma 10) (ma 11) (ma 12) thr pd pal nr rw0 it pi N wd (by omega) hnr) rfl rfl (by rintro _ _ ⟨pd2, pi2, rfl, rfl⟩; rfl)).mono ?_
    rintro _ _ ⟨_, ⟨pd2, pi2, rfl, rfl⟩, rfl⟩
    exact ⟨congrArg (fun z => some (Value.long z)) (hZ), ⟨pd2, pi2, rfl⟩⟩
  · rintro _ _ rfl ⟨pd2, pi2, rfl⟩
    exact ⟨ra, ia, fnd, ask, fm, nr, rr, wd, N, nc, f, sh, mm, w, pl, H, hp, hq, kw, kn, kf, nd, pa, de, sz, fi, mt, md, mi, tw, tb, tn, tf, tsh, tmm, tws, tpl, 0, ask2, rw0, it, md0, mm2, ua, uw, kp, kni, kwi, pi2, pd2, ab, pal, rfl, rfl, hA, hR, hX, hK, hF, hask, hmm⟩
