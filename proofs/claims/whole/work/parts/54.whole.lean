theorem law_switch {E : jD} {nm : String} {b L : Nat} {xs : Nat → Int32} {ad ma : Nat → Nat} {C M : va_W} {i : Nat} (hL : L ≤ 3072) (hi : i + 6 ≤ L) (hRel : Rel E ad ma C M) (kk : ∀ C2 M2, Rel E ad ma C2 M2 → J E (YL nm) (ZL b L xs) 56 1618 1138 (lvL b ad ma i) [] (C2 ++ M2)) : ∀ v : Nat, v < 64 → J E (YL nm) (ZL b L xs) 56 1618 33 (lvL b ad ma i) [.int (iI (v : Int))] (C ++ M) := by
  intro v hv
  match v, hv with
  | 0, _ => exact j_tabIn 184 dL_law_33 ⟨by omega, by omega⟩ (by omega) (by omega) rfl rfl (law_row hL hi hRel kk)
  | 1, _ => exact j_tabIn 217 dL_law_33 ⟨by omega, by omega⟩ (by omega) (by omega) rfl rfl (law_lay hL hi hRel kk)
  | 2, _ => exact j_tabIn 260 dL_law_33 ⟨by omega, by omega⟩ (by omega) (by omega) rfl rfl (law_at hL hi hRel kk)
  | 3, _ => exact j_tabIn 293 dL_law_33 ⟨by omega, by omega⟩ (by omega) (by omega) rfl rfl (law_tear hL hi hRel kk)
  | 4, _ => exact j_tabIn 316 dL_law_33 ⟨by omega, by omega⟩ (by omega) (by omega) rfl rfl (law_copy hL hi hRel kk)
  | 5, _ => exact j_tabIn 379 dL_law_33 ⟨by omega, by omega⟩ (by omega) (by omega) rfl rfl (law_build hL hi hRel kk)
  | 6, _ => exact j_tabIn 412 dL_law_33 ⟨by omega, by omega⟩ (by omega) (by omega) rfl rfl (law_put hL hi hRel kk)
  | 7, _ => exact j_tabIn 445 dL_law_33 ⟨by omega, by omega⟩ (by omega) (by omega) rfl rfl (law_undo hL hi hRel kk)
  | 8, _ => exact j_tabIn 458 dL_law_33 ⟨by omega, by omega⟩ (by omega) (by omega) rfl rfl (law_keep hL hi hRel kk)
  | 9, _ => exact j_tabIn 481 dL_law_33 ⟨by omega, by omega⟩ (by omega) (by omega) rfl rfl (law_on hL hi hRel kk)
  | 10, _ => exact j_tabIn 504 dL_law_33 ⟨by omega, by omega⟩ (by omega) (by omega) rfl rfl (law_item hL hi hRel kk)
  | 11, _ => exact j_tabIn 527 dL_law_33 ⟨by omega, by omega⟩ (by omega) (by omega) rfl rfl (law_shape hL hi hRel kk)
  | 12, _ => exact j_tabIn 550 dL_law_33 ⟨by omega, by omega⟩ (by omega) (by omega) rfl rfl (law_entry hL hi hRel kk)
  | 13, _ => exact j_tabIn 593 dL_law_33 ⟨by omega, by omega⟩ (by omega) (by omega) rfl rfl (law_least hL hi hRel kk)
  | 14, _ => exact j_tabIn 626 dL_law_33 ⟨by omega, by omega⟩ (by omega) (by omega) rfl rfl (law_kth hL hi hRel kk)
  | 15, _ => exact j_tabIn 669 dL_law_33 ⟨by omega, by omega⟩ (by omega) (by omega) rfl rfl (law_left hL hi hRel kk)
  | 16, _ => exact j_tabIn 692 dL_law_33 ⟨by omega, by omega⟩ (by omega) (by omega) rfl rfl (law_right hL hi hRel kk)
  | 17, _ => exact j_tabIn 715 dL_law_33 ⟨by omega, by omega⟩ (by omega) (by omega) rfl rfl (law_owns hL hi hRel kk)
  | 18, _ => exact j_tabIn 738 dL_law_33 ⟨by omega, by omega⟩ (by omega) (by omega) rfl rfl (law_sum hL hi hRel kk)
  | 19, _ => exact j_tabIn 752 dL_law_33 ⟨by omega, by omega⟩ (by omega) (by omega) rfl rfl (law_parent hL hi hRel kk)
  | 20, _ => exact j_tabIn 775 dL_law_33 ⟨by omega, by omega⟩ (by omega) (by omega) rfl rfl (law_depth hL hi hRel kk)
  | 21, _ => exact j_tabIn 798 dL_law_33 ⟨by omega, by omega⟩ (by omega) (by omega) rfl rfl (law_size hL hi hRel kk)
  | 22, _ => exact j_tabIn 821 dL_law_33 ⟨by omega, by omega⟩ (by omega) (by omega) rfl rfl (law_above hL hi hRel kk)
  | 23, _ => exact j_tabIn 854 dL_law_33 ⟨by omega, by omega⟩ (by omega) (by omega) rfl rfl (law_alike hL hi hRel kk)
  | 24, _ => exact j_tabIn 897 dL_law_33 ⟨by omega, by omega⟩ (by omega) (by omega) rfl rfl (law_tree hL hi hRel kk)
  | 25, _ => exact j_tabIn 920 dL_law_33 ⟨by omega, by omega⟩ (by omega) (by omega) rfl rfl (law_meet hL hi hRel kk)
  | 26, _ => exact j_tabIn 953 dL_law_33 ⟨by omega, by omega⟩ (by omega) (by omega) rfl rfl (law_apart hL hi hRel kk)
  | 27, _ => exact j_tabIn 986 dL_law_33 ⟨by omega, by omega⟩ (by omega) (by omega) rfl rfl (law_up hL hi hRel kk)
  | 28, _ => exact j_tabIn 1019 dL_law_33 ⟨by omega, by omega⟩ (by omega) (by omega) rfl rfl (law_node hL hi hRel kk)
  | 29, _ => exact j_tabIn 1052 dL_law_33 ⟨by omega, by omega⟩ (by omega) (by omega) rfl rfl (law_asked hL hi hRel kk)
  | 30, _ => exact j_tabIn 1065 dL_law_33 ⟨by omega, by omega⟩ (by omega) (by omega) rfl rfl (law_count hL hi hRel kk)
  | 31, _ => exact j_tabIn 1088 dL_law_33 ⟨by omega, by omega⟩ (by omega) (by omega) rfl rfl (law_finding hL hi hRel kk)
  | 32, _ => exact j_tabIn 1101 dL_law_33 ⟨by omega, by omega⟩ (by omega) (by omega) rfl rfl (law_findings hL hi hRel kk)
  | 33, _ => exact j_tabIn 1124 dL_law_33 ⟨by omega, by omega⟩ (by omega) (by omega) rfl rfl (law_digest hL hi hRel kk)
  | v + 34, hv => exact j_tabOut 1138 dL_law_33 ⟨by omega, by omega⟩ (Or.inr (by omega)) rfl (kk C M hRel)

theorem law_loop {E : jD} {nm : String} {b L : Nat} {xs : Nat → Int32} {ad ma : Nat → Nat} (hL : L ≤ 3072) : ∀ (d i : Nat) (C M : va_W), L - i < d → i ≤ L → Rel E ad ma C M → J E (YL nm) (ZL b L xs) 56 1618 18 (lvL b ad ma i) [] (C ++ M) := by
  intro d
  induction d with
  | zero => intros; omega
  | succ d ih =>
    intro i C M hd hi0 hRel
    refine j_iload_3 19 dL_law_18 rfl ?_
    refine j_aload_0 20 dL_law_19 rfl ?_
    refine j_slen 21 dL_law_20 ?_
    refine j_bipush 23 dL_law_21 (by decide +kernel) ?_
    refine j_isub 24 dL_law_23 ?_
    refine j_icmp_gt 1144 27 dL_law_24 ⟨by omega, by omega⟩ ⟨by omega, by omega⟩ (fun h => ?_) (fun h => ?_)
    · refine j_iconst 1145 dL_law_1144 ?_
      exact j_law dL_law_1145 rfl rfl
    · refine j_aload_0 28 dL_law_27 rfl ?_
      refine j_iload_3 29 dL_law_28 rfl ?_
      refine j_sld 30 i dL_law_29 rfl (by omega) hL ?_
      refine j_bipush 32 dL_law_30 (by decide +kernel) ?_
      refine j_iand 33 dL_law_32 ?_
      obtain ⟨v, hv, e⟩ := and63 (xs i)
      refine j_top (v : Int) e ?_
      refine law_switch hL (by omega) hRel (fun C2 M2 h2 => ?_) v hv
      refine j_iinc 1141 (lv' := lvL b ad ma (i + 6)) dL_law_1138 rfl rfl ⟨rfl, rfl⟩ ?_
      refine j_goto 18 dL_law_1141 ?_
      exact ih (i + 6) C2 M2 (by omega) (by omega) h2

def nr0 : Nat → Int := fun j => if j < 4 then -1 else 0
def adL (l : List Nat) : Nat → Nat := fun k => l.getD k 0
theorem aI_z : aI (fun _ => 0) = fun _ => 0 := by funext j; exact iI_0
theorem aI_m : aI nr0 = upd (upd (upd (upd (fun _ => 0) 0 (iI (-1))) 1 (iI (-1))) 2 (iI (-1))) 3 (iI (-1)) := by
  funext j
  show iI (if j < 4 then -1 else 0) = _
  unfold upd
  by_cases h3 : j = 3
  · subst h3; rfl
  · by_cases h2 : j = 2
    · subst h2; rfl
    · by_cases h1 : j = 1
      · subst h1; rfl
      · by_cases h0 : j = 0
        · subst h0; rfl
        · rw [if_neg h3, if_neg h2, if_neg h1, if_neg h0, if_neg (by omega)]
          exact iI_0

set_option maxRecDepth 100000 in
set_option maxHeartbeats 4000000 in
theorem rel_init (E : jD) (h0 h1 b0 c0 b1 c1 b2 c2 b3 c3 h10 i0 j0 k0 i1 j1 k1 x0 x1 x2 x3 x4 x5 x6 g0 g1 g2 y0 y1 y2 y3 y4 y5 y6 y7 y8 y9 y10 y11 y12 y13 y14 h42 m0 m1 m2 m3 m4 m5 m6 m7 m8 m9 m10 m11 m12 : Nat) : Rel E (adL [h0, h1, b0, c0, b1, c1, b2, c2, b3, c3, h10, i0, j0, k0, i1, j1, k1, x0, x1, x2, x3, x4, x5, x6, g0, g1, g2, y0, y1, y2, y3, y4, y5, y6, y7, y8, y9, y10, y11, y12, y13, y14, h42]) (adL [m0, m1, m2, m3, m4, m5, m6, m7, m8, m9, m10, m11, m12]) [(h0, jO 6 [.ref h1, .ref x0, .ref g0, .ref h10, .ref y0, .ref h42, .int (iI (0)), .int (iI (0))]), (h1, jR E 2 4 (va_up (va_up (va_up (va_up (fun _ => none) 0 (some b0)) 1 (some b1)) 2 (some b2)) 3 (some b3))), (b0, jO 4 [.ref c0, .int (iI (-1))]), (c0, jA E 48 (fun _ => 0)), (b1, jO 4 [.ref c1, .int (iI (-1))]), (c1, jA E 48 (fun _ => 0)), (b2, jO 4 [.ref c2, .int (iI (-1))]), (c2, jA E 48 (fun _ => 0)), (b3, jO 4 [.ref c3, .int (iI (-1))]), (c3, jA E 48 (fun _ => 0)), (h10, jR E 3 2 (va_up (va_up (fun _ => none) 0 (some i0)) 1 (some i1))), (i0, jO 2 [.ref j0, .int (iI 0)]), (j0, jO 4 [.ref k0, .int (iI (-1))]), (k0, jA E 48 (fun _ => 0)), (i1, jO 2 [.ref j1, .int (iI 0)]), (j1, jO 4 [.ref k1, .int (iI (-1))]), (k1, jA E 48 (fun _ => 0)), (x0, jO 3 [.ref x1, .ref x3, .ref x4, .ref x6, .int (iI 0), .int (iI 0)]), (x1, jO 4 [.ref x2, .int (iI (-1))]), (x2, jA E 48 (fun _ => 0)), (x3, jA E 48 (fun _ => 0)), (x4, jO 5 [.ref x5, .int (iI 0)]), (x5, jL E 64 (fun _ => 0)), (x6, jA E 6 (fun _ => 0)), (g0, jO 1 [.ref g1, .ref g2, .int (iI 0)]), (g1, jA E 10 (fun _ => 0)), (g2, jA E 10 (fun _ => 0)), (y0, jO 0 [.ref y1, .ref y2, .ref y3, .ref y4, .ref y5, .ref y6, .ref y8, .int (iI 0)]), (y1, jA E 24 (fun _ => 0)), (y2, jA E 24 (fun _ => 0)), (y3, jA E 24 (fun _ => 0)), (y4, jA E 24 (fun _ => 0)), (y5, jA E 47 (fun _ => 0)), (y6, jO 4 [.ref y7, .int (iI (-1))]), (y7, jA E 48 (fun _ => 0)), (y8, jO 3 [.ref y9, .ref y11, .ref y12, .ref y14, .int (iI 0), .int (iI 0)]), (y9, jO 4 [.ref y10, .int (iI (-1))]), (y10, jA E 48 (fun _ => 0)), (y11, jA E 48 (fun _ => 0)), (y12, jO 5 [.ref y13, .int (iI 0)]), (y13, jL E 64 (fun _ => 0)), (y14, jA E 6 (fun _ => 0)), (h42, jA E 5 (fun _ => 0))] [(m0, jO 7 [.int 0, .int 0, .int 0, .ref m1, .ref m2, .ref m3, .int 0, .int 0, .ref m4, .ref m5, .int 0, .ref m6, .ref m7, .int 0, .ref m8, .ref m9, .ref m10, .ref m11, .int 0, .int 0, .ref m12, .int 0]), (m1, jA E 5 (fun _ => 0)), (m2, jA E 192 (fun _ => 0)), (m3, jA E 4 (upd (upd (upd (upd (fun _ => 0) 0 (iI (-1))) 1 (iI (-1))) 2 (iI (-1))) 3 (iI (-1)))), (m4, jA E 48 (fun _ => 0)), (m5, jA E 256 (fun _ => 0)), (m6, jA E 10 (fun _ => 0)), (m7, jA E 10 (fun _ => 0)), (m8, jA E 96 (fun _ => 0)), (m9, jA E 2 (fun _ => 0)), (m10, jA E 2 (fun _ => 0)), (m11, jA E 48 (fun _ => 0)), (m12, jA E 24 (fun _ => 0))] := by
  refine ⟨(va_up (va_up (va_up (va_up (fun _ => none) 0 (some b0)) 1 (some b1)) 2 (some b2)) 3 (some b3)), (va_up (va_up (fun _ => none) 0 (some i0)) 1 (some i1)), 0, 0, (fun _ => 0), nr0, (fun _ _ => 0), 0, 0, (-1), (fun _ => 0), (fun _ => 0), 0, (fun _ => 0), (fun _ => 0), [], (fun _ => 0), (fun _ => 0), (fun _ => 0), (fun _ => -1), (fun _ _ => 0), 0, (fun _ => 0), (fun _ => 0), (fun _ => 0), (fun _ => 0), (fun _ => 0), (-1), (fun _ => 0), 0, 0, (-1), (fun _ => 0), (fun _ => 0), 0, (fun _ => 0), (fun _ => 0), 0, 0, (fun _ => 0), (fun _ => 0), (fun _ => 0), 0, (fun _ => 0), (fun _ => 0), (fun _ => 0), (fun _ => 0), (fun _ => 0), (fun _ => 0), 0, (fun _ => 0), 0, ?_, ?_, ?_, ?_, Or.inl ⟨rfl, rfl, rfl, rfl⟩, fun k hk => Or.inl ⟨rfl, rfl⟩, Or.inl rfl, rfl, rfl⟩
  · unfold CW
    rw [aI_z]
    rfl
  · unfold MW
    rw [aI_z, aI_m]
    rfl
  · refine ⟨fun r hr => ?_, fun k hk => ?_⟩
    · rcases lt4 hr with rfl | rfl | rfl | rfl <;> rfl
    · rcases lt2 hk with rfl | rfl <;> rfl
  · intro r hr
    have e : nr0 r = -1 := if_pos hr
    rw [e]
    exact ⟨by omega, fun j hj => by omega⟩

set_option maxRecDepth 100000 in
set_option maxHeartbeats 4000000 in
theorem law_start {E : jD} {nm : String} {b L : Nat} {xs : Nat → Int32} (hL : L ≤ 3072) : J E (YL nm) (ZL b L xs) 0 0 0 [(0, .ref b)] [] [] := by
  refine j_new 3 (fs := [.null, .null, .null, .null, .null, .null, .int 0, .int 0]) tyX6 (ci := 6) rfl inX6 tyX6_ok wcl_L_7 wn_X6 wi_ShapeMinima (by decide +kernel) dL_law_0 rfl (fun h0 => ?_)
  refine j_dup 4 dL_law_3 rfl ?_
  refine j_callI 7 Y_X6_init [0] [] (c_X6_init E h0) m_X6_init wml_L_9 dL_law_4 rfl rfl rfl rfl rfl rfl rfl (fun r N h => by obtain ⟨_, _, _, _, _, _, _, _, _, _, _, _, _, _, _, _, _, _, _, _, _, _, _, _, _, _, _, _, _, _, _, _, _, _, _, _, _, _, _, _, _, _, rfl, rfl⟩ := h; rfl) (fun r N h => ?_)
  obtain ⟨h1, b0, c0, b1, c1, b2, c2, b3, c3, h10, i0, j0, k0, i1, j1, k1, x0, x1, x2, x3, x4, x5, x6, g0, g1, g2, y0, y1, y2, y3, y4, y5, y6, y7, y8, y9, y10, y11, y12, y13, y14, h42, rfl, rfl⟩ := h
  refine j_eqM (M' := [(h0, jO 6 [.ref h1, .ref x0, .ref g0, .ref h10, .ref y0, .ref h42, .int (iI (0)), .int (iI (0))]), (h1, jR E 2 4 (va_up (va_up (va_up (va_up (fun _ => none) 0 (some b0)) 1 (some b1)) 2 (some b2)) 3 (some b3))), (b0, jO 4 [.ref c0, .int (iI (-1))]), (c0, jA E 48 (fun _ => 0)), (b1, jO 4 [.ref c1, .int (iI (-1))]), (c1, jA E 48 (fun _ => 0)), (b2, jO 4 [.ref c2, .int (iI (-1))]), (c2, jA E 48 (fun _ => 0)), (b3, jO 4 [.ref c3, .int (iI (-1))]), (c3, jA E 48 (fun _ => 0)), (h10, jR E 3 2 (va_up (va_up (fun _ => none) 0 (some i0)) 1 (some i1))), (i0, jO 2 [.ref j0, .int (iI 0)]), (j0, jO 4 [.ref k0, .int (iI (-1))]), (k0, jA E 48 (fun _ => 0)), (i1, jO 2 [.ref j1, .int (iI 0)]), (j1, jO 4 [.ref k1, .int (iI (-1))]), (k1, jA E 48 (fun _ => 0)), (x0, jO 3 [.ref x1, .ref x3, .ref x4, .ref x6, .int (iI 0), .int (iI 0)]), (x1, jO 4 [.ref x2, .int (iI (-1))]), (x2, jA E 48 (fun _ => 0)), (x3, jA E 48 (fun _ => 0)), (x4, jO 5 [.ref x5, .int (iI 0)]), (x5, jL E 64 (fun _ => 0)), (x6, jA E 6 (fun _ => 0)), (g0, jO 1 [.ref g1, .ref g2, .int (iI 0)]), (g1, jA E 10 (fun _ => 0)), (g2, jA E 10 (fun _ => 0)), (y0, jO 0 [.ref y1, .ref y2, .ref y3, .ref y4, .ref y5, .ref y6, .ref y8, .int (iI 0)]), (y1, jA E 24 (fun _ => 0)), (y2, jA E 24 (fun _ => 0)), (y3, jA E 24 (fun _ => 0)), (y4, jA E 24 (fun _ => 0)), (y5, jA E 47 (fun _ => 0)), (y6, jO 4 [.ref y7, .int (iI (-1))]), (y7, jA E 48 (fun _ => 0)), (y8, jO 3 [.ref y9, .ref y11, .ref y12, .ref y14, .int (iI 0), .int (iI 0)]), (y9, jO 4 [.ref y10, .int (iI (-1))]), (y10, jA E 48 (fun _ => 0)), (y11, jA E 48 (fun _ => 0)), (y12, jO 5 [.ref y13, .int (iI 0)]), (y13, jL E 64 (fun _ => 0)), (y14, jA E 6 (fun _ => 0)), (h42, jA E 5 (fun _ => 0))]) rfl ?_
  refine j_astore_1 8 (lv' := [(0, .ref b), (1, .ref h0)]) dL_law_7 rfl ⟨rfl, rfl⟩ ?_
  refine j_new 11 (fs := [.int 0, .int 0, .int 0, .null, .null, .null, .int 0, .int 0, .null, .null, .int 0, .null, .null, .int 0, .null, .null, .null, .null, .int 0, .int 0, .null, .int 0]) tyX7 (ci := 7) rfl inX7 tyX7_ok wcl_L_10 wn_X7 wi_ShapeMinimaModel (by decide +kernel) dL_law_8 rfl (fun m0 => ?_)
  refine j_dup 12 dL_law_11 rfl ?_
  refine j_callI 15 Y_X7_init [43] [] (c_X7_init E m0) m_X7_init wml_L_12 dL_law_12 rfl rfl rfl rfl rfl rfl rfl (fun r N h => by obtain ⟨_, _, _, _, _, _, _, _, _, _, _, _, rfl, rfl⟩ := h; rfl) (fun r N h => ?_)
  obtain ⟨m1, m2, m3, m4, m5, m6, m7, m8, m9, m10, m11, m12, rfl, rfl⟩ := h
  refine j_eqM (M' := [(h0, jO 6 [.ref h1, .ref x0, .ref g0, .ref h10, .ref y0, .ref h42, .int (iI (0)), .int (iI (0))]), (h1, jR E 2 4 (va_up (va_up (va_up (va_up (fun _ => none) 0 (some b0)) 1 (some b1)) 2 (some b2)) 3 (some b3))), (b0, jO 4 [.ref c0, .int (iI (-1))]), (c0, jA E 48 (fun _ => 0)), (b1, jO 4 [.ref c1, .int (iI (-1))]), (c1, jA E 48 (fun _ => 0)), (b2, jO 4 [.ref c2, .int (iI (-1))]), (c2, jA E 48 (fun _ => 0)), (b3, jO 4 [.ref c3, .int (iI (-1))]), (c3, jA E 48 (fun _ => 0)), (h10, jR E 3 2 (va_up (va_up (fun _ => none) 0 (some i0)) 1 (some i1))), (i0, jO 2 [.ref j0, .int (iI 0)]), (j0, jO 4 [.ref k0, .int (iI (-1))]), (k0, jA E 48 (fun _ => 0)), (i1, jO 2 [.ref j1, .int (iI 0)]), (j1, jO 4 [.ref k1, .int (iI (-1))]), (k1, jA E 48 (fun _ => 0)), (x0, jO 3 [.ref x1, .ref x3, .ref x4, .ref x6, .int (iI 0), .int (iI 0)]), (x1, jO 4 [.ref x2, .int (iI (-1))]), (x2, jA E 48 (fun _ => 0)), (x3, jA E 48 (fun _ => 0)), (x4, jO 5 [.ref x5, .int (iI 0)]), (x5, jL E 64 (fun _ => 0)), (x6, jA E 6 (fun _ => 0)), (g0, jO 1 [.ref g1, .ref g2, .int (iI 0)]), (g1, jA E 10 (fun _ => 0)), (g2, jA E 10 (fun _ => 0)), (y0, jO 0 [.ref y1, .ref y2, .ref y3, .ref y4, .ref y5, .ref y6, .ref y8, .int (iI 0)]), (y1, jA E 24 (fun _ => 0)), (y2, jA E 24 (fun _ => 0)), (y3, jA E 24 (fun _ => 0)), (y4, jA E 24 (fun _ => 0)), (y5, jA E 47 (fun _ => 0)), (y6, jO 4 [.ref y7, .int (iI (-1))]), (y7, jA E 48 (fun _ => 0)), (y8, jO 3 [.ref y9, .ref y11, .ref y12, .ref y14, .int (iI 0), .int (iI 0)]), (y9, jO 4 [.ref y10, .int (iI (-1))]), (y10, jA E 48 (fun _ => 0)), (y11, jA E 48 (fun _ => 0)), (y12, jO 5 [.ref y13, .int (iI 0)]), (y13, jL E 64 (fun _ => 0)), (y14, jA E 6 (fun _ => 0)), (h42, jA E 5 (fun _ => 0))] ++ [(m0, jO 7 [.int 0, .int 0, .int 0, .ref m1, .ref m2, .ref m3, .int 0, .int 0, .ref m4, .ref m5, .int 0, .ref m6, .ref m7, .int 0, .ref m8, .ref m9, .ref m10, .ref m11, .int 0, .int 0, .ref m12, .int 0]), (m1, jA E 5 (fun _ => 0)), (m2, jA E 192 (fun _ => 0)), (m3, jA E 4 (upd (upd (upd (upd (fun _ => 0) 0 (iI (-1))) 1 (iI (-1))) 2 (iI (-1))) 3 (iI (-1)))), (m4, jA E 48 (fun _ => 0)), (m5, jA E 256 (fun _ => 0)), (m6, jA E 10 (fun _ => 0)), (m7, jA E 10 (fun _ => 0)), (m8, jA E 96 (fun _ => 0)), (m9, jA E 2 (fun _ => 0)), (m10, jA E 2 (fun _ => 0)), (m11, jA E 48 (fun _ => 0)), (m12, jA E 24 (fun _ => 0))]) rfl ?_
  refine j_astore_2 16 (lv' := [(0, .ref b), (1, .ref h0), (2, .ref m0)]) dL_law_15 rfl ⟨rfl, rfl⟩ ?_
  refine j_iconst 17 dL_law_16 ?_
  refine j_istore_3 18 (lv' := lvL b (adL [h0, h1, b0, c0, b1, c1, b2, c2, b3, c3, h10, i0, j0, k0, i1, j1, k1, x0, x1, x2, x3, x4, x5, x6, g0, g1, g2, y0, y1, y2, y3, y4, y5, y6, y7, y8, y9, y10, y11, y12, y13, y14, h42]) (adL [m0, m1, m2, m3, m4, m5, m6, m7, m8, m9, m10, m11, m12]) 0) dL_law_17 rfl ⟨rfl, rfl⟩ ?_
  exact law_loop hL (L + 1) 0 _ _ (by omega) (by omega) (rel_init E h0 h1 b0 c0 b1 c1 b2 c2 b3 c3 h10 i0 j0 k0 i1 j1 k1 x0 x1 x2 x3 x4 x5 x6 g0 g1 g2 y0 y1 y2 y3 y4 y5 y6 y7 y8 y9 y10 y11 y12 y13 y14 h42 m0 m1 m2 m3 m4 m5 m6 m7 m8 m9 m10 m11 m12)

set_option maxRecDepth 100000 in
set_option maxHeartbeats 4000000 in
theorem whole_start {p : Program} {e : Env} {s : State} {m : MethodId} {below : List Frame} {meth : Method} {c : Code} (l : Launch) (hflags : l.flags = flags0) {b L : Nat} {xs : Nat → Int32} (hL : L ≤ 3072) (C0 : lw_At p s m meth c b L xs) : W p l e room_1 s m #[Value.ref b] below meth c s.heap [] 0 0 (lw_Z below #[Value.ref b] s) (entryFrame m ([Value.ref b] : List Value).toArray 4) := by
  obtain ⟨hx, hb, hr, hml, hown, hts, hX, hbl, hlocks, hgv⟩ := id C0
  have htj : ∀ w ∈ jT, w.before #[Value.ref b] s = true := fun w hw => hts w (jT_lw hw)
  obtain ⟨c0, iS0, hKn0⟩ := u_known (C := RX0) (T := TX0) (N := 8) (n := 8) htj inX0 (htj _ wn_X0)
  obtain ⟨c1, iS1, hKn1⟩ := u_known (C := RX1) (T := TX1) (N := 3) (n := 3) htj inX1 (htj _ wn_X1)
  obtain ⟨c2, iS2, hKn2⟩ := u_known (C := RX2) (T := TX2) (N := 2) (n := 2) htj inX2 (htj _ wn_X2)
  obtain ⟨c3, iS3, hKn3⟩ := u_known (C := RX3) (T := TX3) (N := 6) (n := 6) htj inX3 (htj _ wn_X3)
  obtain ⟨c4, iS4, hKn4⟩ := u_known (C := RX4) (T := TX4) (N := 2) (n := 2) htj inX4 (htj _ wn_X4)
  obtain ⟨c5, iS5, hKn5⟩ := u_known (C := RX5) (T := TX5) (N := 2) (n := 2) htj inX5 (htj _ wn_X5)
  obtain ⟨c6, iS6, hKn6⟩ := u_known (C := RX6) (T := TX6) (N := 8) (n := 8) htj inX6 (htj _ wn_X6)
  obtain ⟨c7, iS7, hKn7⟩ := u_known (C := RX7) (T := TX7) (N := 22) (n := 22) htj inX7 (htj _ wn_X7)
  have hex : ∀ k : Nat, ∃ q : ClassId × (Nat → Nat), ∀ r : vw_C, vwCl[k]? = some r → u_Kn s r.1 r.2.1 r.2.2 q.1 q.2 := by
    intro k
    match k with
    | 0 => exact ⟨(c0, iS0), fun r hr => by cases hr; exact hKn0⟩
    | 1 => exact ⟨(c1, iS1), fun r hr => by cases hr; exact hKn1⟩
    | 2 => exact ⟨(c2, iS2), fun r hr => by cases hr; exact hKn2⟩
    | 3 => exact ⟨(c3, iS3), fun r hr => by cases hr; exact hKn3⟩
    | 4 => exact ⟨(c4, iS4), fun r hr => by cases hr; exact hKn4⟩
    | 5 => exact ⟨(c5, iS5), fun r hr => by cases hr; exact hKn5⟩
    | 6 => exact ⟨(c6, iS6), fun r hr => by cases hr; exact hKn6⟩
    | 7 => exact ⟨(c7, iS7), fun r hr => by cases hr; exact hKn7⟩
    | k + 8 => exact ⟨(c0, iS0), fun r hr => by simp [vwCl] at hr⟩
  obtain ⟨a0, k0, p0, f0, g0, q0⟩ := Cond.arrayClass_spec (htj _ wac_int)
  obtain ⟨a1, k1, p1, f1, g1, q1⟩ := Cond.arrayClass_spec (htj _ wac_long)
  obtain ⟨p2, a2, k2, f2, -, g2, q2, e2⟩ := Cond.arrayOver_spec (hts _ wao_X4)
  obtain ⟨p3, a3, k3, f3, -, g3, q3, e3⟩ := Cond.arrayOver_spec (hts _ wao_X2)
  obtain ⟨E, hE⟩ : ∃ E : jD, jK E s := by
    refine ⟨((fun k => (Classical.choose (hex k)).1, fun k => (Classical.choose (hex k)).2), fun k => match k with | 0 => a0 | 1 => a1 | 2 => a2 | _ => a3), ⟨fun k r hr => Classical.choose_spec (hex k) r hr, fun k q hq => ?_⟩, va_AO.of (hts _ wao_X4), va_AO.of (hts _ wao_X2)⟩
    match k, hq with
    | 0, hq => cases hq; exact ⟨fun n z => ⟨fun k h => (by cases h), k0, g0, p0, q0⟩, f0⟩
    | 1, hq => cases hq; exact ⟨fun n z => ⟨fun k h => (by cases h), k1, g1, p1, q1⟩, f1⟩
    | 2, hq => cases hq; exact ⟨fun n z => ⟨fun k h => (by cases h), k2, g2, p2, q2⟩, k2, p2, g2, q2, f2, e2⟩
    | 3, hq => cases hq; exact ⟨fun n z => ⟨fun k h => (by cases h), k3, g3, p3, q3⟩, k3, p3, g3, q3, f3, e3⟩
    | k + 4, hq => simp [jty] at hq
  have hl := lv_entry ([.ref b]) (n := 4) (Nat.le_of_ble_eq_true rfl)
  rw [lg_entry_eq]
  exact law_start (E := E) (nm := meth.name) hL p l e s m _ below meth c (fun q => s.heap.size ≤ q) ⟨hx, hb, hml, hr, hlocks, hown, rfl, htj, hE, fun q h => h, rfl, rfl, hX, hbl⟩ s.heap [] _ hl (fun k q h => by simp at h) ⟨fun i j p q h => by simp at h, fun k q h => by simp at h⟩ va_S.rf
set_option maxHeartbeats 4000000 in
theorem lw_walk (l : Launch) (hflags : l.flags = flags0) (b : Addr) (xs : List Int32) : MetFree l x (headSpec (Jvm.Cond.code x code maxLocals ret :: tables_1) room_1) (lw_P b xs) (fun _ _ _ _ _ => True) lw_Q := by
  refine MetFree.of_bodyS (code := code) (maxLocals := maxLocals) (ret := ret) (by decide) ?_ ?_
  · intro args s m h hn
    obtain ⟨meth, c, h1, h2, h3, h4, h5, h6, -, -⟩ := Cond.code_spec hn (atoms_spec (ws := Jvm.Cond.code x code maxLocals ret :: tables_1) h _ List.mem_cons_self)
    exact ⟨meth, c, h1, h2, h3, h4, h5, h6⟩
  · intro p e s m args below meth c s₁ B hml0 hP _
    obtain ⟨rfl, hx, hbd, hgv⟩ := hP
    obtain ⟨scr, harrAt, hlist, hof, hsmall⟩ := hx
    obtain ⟨hcb, hkn, -, -⟩ := State.arrayAt?_spec harrAt
    have hown : s.vm.findClass R_law = some m.cls := findClass_of_methodNamed B.named
    have hts0 : ∀ c ∈ (Jvm.Cond.code x code maxLocals ret :: tables_1), c.before #[Value.ref b] s = true := atoms_spec (ws := Jvm.Cond.code x code maxLocals ret :: tables_1) B.pre
    have hts : ∀ w ∈ lw_tbl, w.before #[Value.ref b] s = true := k2_hts_sels lw_privs (fun w hw => hts0 w (List.mem_cons_of_mem _ hw)) lw_privs_ok
    have hml : c.maxLocals = 4 := B.maxLocals_eq (hts0 _ List.mem_cons_self)
    have X₀ : Stand p l e room_1 s m #[Value.ref b] below meth c s₁ [] 0 0 := Stand.of_body B
    have hh0 : s₁.heap = s.heap := by rw [B.state]; rfl
    have hsz : scr.slots.size = xs.length := by rw [← Array.length_toList, hlist, List.length_map]
    have hval : ∀ j : Nat, j < xs.length → scr.slots[j]? = some (.int (xs.getD j 0)) := fun j hj => by
      rw [← Array.getElem?_toList, hlist]
      simp [hj]
    have hbl : b < s.heap.size := (Array.getElem?_eq_some_iff.mp hcb).1
    have hX : va_X b xs.length (fun j => xs.getD j 0) s s.heap := ⟨scr, hcb, hof, hkn, hsz, hval⟩
    have K : W p l e room_1 s m #[Value.ref b] below meth c s₁.heap [] 0 0 (lw_Z below #[Value.ref b] s) (entryFrame m ([Value.ref b] : List Value).toArray 4) := by
      rw [hh0]
      exact whole_start l hflags hbd ⟨B.exec, B.bytes, B.returns, hml, hown, hts, hX, hbl, B.notSynchronized, hgv⟩
    obtain ⟨t, a1, o, b1, b2, b3⟩ := K s₁ rfl X₀
    exact ⟨t, o, a1, b1, b2, b3⟩
theorem lw_pre_spec {args : Array Value} {s : State} (h : (Jvm.Cond.and given_1 narrow_1).before args s = true) (hr : rest_1_c.before args s = true) : ∃ (b : Addr) (xs : List Int32), lw_P b xs args s := by
  have hs := flat_of_before _ h
  have hq := flat_of_before _ hr
  have hc : (Cond.count 1).before args s = true := hs _ (by decide +kernel)
  have harr : (Cond.arrayOf (.arg 0) .int).before args s = true := hs _ (by decide +kernel)
  have hle : (Cond.le (.length (.arg 0)) (.int 3072)).before args s = true := hs _ (by decide +kernel)
  have hlen : (Cond.isInt (.length (.arg 0))).before args s = true := hq _ (by decide +kernel)
  have hall : (Cond.all (.arg 0) (.isInt (.elem (.arg 0) (.index 0)))).before args s = true := hq _ (by decide +kernel)
  obtain ⟨b, xs, hb, hx⟩ := State.ints_of_pre rfl harr hlen hall
  have hsm : xs.length < 2 ^ 31 := hx.choose_spec.2.2.2
  have hev : (Term.length (.arg 0)).eval args s none [] s = some (.int xs.length.toInt32) := hx.length_eval hb
  have hv := Cond.le_ints hev (show (Term.int 3072).eval args s none [] s = some (.int 3072) from rfl)
  have hd : xs.length.toInt32 ≤ 3072 := by
    simpa [Cond.before, Cond.holds, hv] using hle
  have hN : xs.length ≤ 3072 := (Int32.ofNat_le_ofNat hsm (by decide)).mp (show Int32.ofNat xs.length ≤ Int32.ofNat 3072 from hd)
  exact ⟨b, xs, Cond.one_arg hc (show args[0]? = some (.ref b) from hb), hx, hN, h⟩
theorem lw_comes (l : Launch) (hflags : l.flags = flags0) : Comes l x (Jvm.Cond.code x code maxLocals ret :: tables_1) room_1 (fun tb e args s => Calls_1 tb e args s ∧ rest_1 tb e args s ∧ Pre_1 tb e args s)
    (fun _ _ args s o t => lw_Q args s o t) := by
  intro p e ha hc hk s m args below hf hfit hheap happ hpre
  obtain ⟨b, xs, hP⟩ := lw_pre_spec hpre.2.2 hpre.2.1
  obtain ⟨k, o, h1, h2, h3, hQ⟩ := lw_walk l hflags b xs p e ha hc hk s m args below hf ((Spec.applies_iff_loose hf).mp happ).1 hP trivial
  exact ⟨k, o, h1, h2, h3, hQ⟩
theorem lw_frame {s t : State} {o : Outcome} {args : Array Value} (h : Framed s o t [] 600000 7302250) :
    Framed s o t (fieldLocs frame_1_writes args s ++ arrayLocs frame_1_arrays args s ++ staticLocs frame_1_statics s) 600000 7302250 := h
theorem lw_limb (L : Cond) (hL : ∀ (args : Array Value) (s t : State), L.after args s (.returned (some (.int 1))) t = true) :
    ArmFor flags0 classFile x code maxLocals ret World_1 tables_1 room_1 Calls_1 rest_1 Pre_1
      (fun tb e a s o t => postC L tb e a s o t ∧ Framed s o t (fieldLocs frame_1_writes a s ++ arrayLocs frame_1_arrays a s ++ staticLocs frame_1_statics s) 600000 7302250) := by
  intro l hflags _ _ p e ha hc hk s m args below hf hfit hheap happ hpre
  obtain ⟨k, o, h1, h2, h3, rfl, hF⟩ := lw_comes l hflags p e ha hc hk s m args below hf hfit hheap happ hpre
  exact ⟨k, _, h1, h2, h3, hL args s _, lw_frame hF⟩
theorem i_vc : Claimed_1_1 ∧ Claimed_1_2 := ⟨lw_limb limb_1_1 (fun args s t => by simp [limb_1_1, Cond.after, Cond.holds, Cond.value]), lw_limb limb_1_2 (fun args s t => Cond.after_iff.mpr (by
  first | (rw [show limb_1_2 = Cond.eq .result (.int 1) from rfl, Cond.eq_ints (x := 1) (y := 1) rfl rfl]; simp; done) | (simp [limb_1_2, Cond.value, Term.eval]; done)))⟩
