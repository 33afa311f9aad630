set_option maxRecDepth 100000 in
set_option maxHeartbeats 4000000 in
theorem c_X6_init (E : jD) (h0 : Nat) : MC E Y_X6_init [.ref h0] [(h0, jO 6 [.null, .null, .null, .null, .null, .null, .int 0, .int 0])] (fun rr N0 => ∃ h1 b0 c0 b1 c1 b2 c2 b3 c3 h10 i0 j0 k0 i1 j1 k1 x0 x1 x2 x3 x4 x5 x6 g0 g1 g2 y0 y1 y2 y3 y4 y5 y6 y7 y8 y9 y10 y11 y12 y13 y14 h42, rr = none ∧ N0 = [(h0, jO 6 [.ref h1, .ref x0, .ref g0, .ref h10, .ref y0, .ref h42, .int (iI (0)), .int (iI (0))]), (h1, jR E 2 4 (va_up (va_up (va_up (va_up (fun _ => none) 0 (some b0)) 1 (some b1)) 2 (some b2)) 3 (some b3))), (b0, jO 4 [.ref c0, .int (iI (-1))]), (c0, jA E 48 (fun _ => 0)), (b1, jO 4 [.ref c1, .int (iI (-1))]), (c1, jA E 48 (fun _ => 0)), (b2, jO 4 [.ref c2, .int (iI (-1))]), (c2, jA E 48 (fun _ => 0)), (b3, jO 4 [.ref c3, .int (iI (-1))]), (c3, jA E 48 (fun _ => 0)), (h10, jR E 3 2 (va_up (va_up (fun _ => none) 0 (some i0)) 1 (some i1))), (i0, jO 2 [.ref j0, .int (iI 0)]), (j0, jO 4 [.ref k0, .int (iI (-1))]), (k0, jA E 48 (fun _ => 0)), (i1, jO 2 [.ref j1, .int (iI 0)]), (j1, jO 4 [.ref k1, .int (iI (-1))]), (k1, jA E 48 (fun _ => 0)), (x0, jO 3 [.ref x1, .ref x3, .ref x4, .ref x6, .int (iI 0), .int (iI 0)]), (x1, jO 4 [.ref x2, .int (iI (-1))]), (x2, jA E 48 (fun _ => 0)), (x3, jA E 48 (fun _ => 0)), (x4, jO 5 [.ref x5, .int (iI 0)]), (x5, jL E 64 (fun _ => 0)), (x6, jA E 6 (fun _ => 0)), (g0, jO 1 [.ref g1, .ref g2, .int (iI 0)]), (g1, jA E 10 (fun _ => 0)), (g2, jA E 10 (fun _ => 0)), (y0, jO 0 [.ref y1, .ref y2, .ref y3, .ref y4, .ref y5, .ref y6, .ref y8, .int (iI 0)]), (y1, jA E 24 (fun _ => 0)), (y2, jA E 24 (fun _ => 0)), (y3, jA E 24 (fun _ => 0)), (y4, jA E 24 (fun _ => 0)), (y5, jA E 47 (fun _ => 0)), (y6, jO 4 [.ref y7, .int (iI (-1))]), (y7, jA E 48 (fun _ => 0)), (y8, jO 3 [.ref y9, .ref y11, .ref y12, .ref y14, .int (iI 0), .int (iI 0)]), (y9, jO 4 [.ref y10, .int (iI (-1))]), (y10, jA E 48 (fun _ => 0)), (y11, jA E 48 (fun _ => 0)), (y12, jO 5 [.ref y13, .int (iI 0)]), (y13, jL E 64 (fun _ => 0)), (y14, jA E 6 (fun _ => 0)), (h42, jA E 5 (fun _ => 0))]) := by
  refine MC.of (by decide) rfl rfl ?_
  refine j_aload_0 1 dX6_init_0 rfl ?_
  refine j_obj 4 wml_X6_3 dX6_init_1 rfl ?_
  refine j_aload_0 5 dX6_init_4 rfl ?_
  refine j_iconst 6 dX6_init_5 ?_
  refine j_newq2 9 4 rfl rfl wcl_X6_9 dX6_init_6 rfl (fun h1 => ?_)
  refine j_eqM (M' := [(h0, jO 6 [.null, .null, .null, .null, .null, .null, .int 0, .int 0]), (h1, jR E 2 4 (fun _ => none))]) rfl ?_
  refine j_putF 12 0 pf_X6_11 rfl rfl dX6_init_9 rfl ⟨rfl, rfl, rfl⟩ ?_
  refine j_eqM (M' := [(h0, jO 6 [.ref h1, .null, .null, .null, .null, .null, .int 0, .int 0]), (h1, jR E 2 4 (fun _ => none))]) rfl ?_
  refine j_iconst 13 dX6_init_12 ?_
  refine j_istore_1 14 (lv' := [(0, _), (1, _)]) dX6_init_13 rfl ⟨rfl, rfl⟩ ?_
  refine j_iload_1 15 dX6_init_14 rfl ?_
  refine j_iconst 16 dX6_init_15 ?_
  refine j_icmp_ge 38 19 dX6_init_16 ⟨by omega, by omega⟩ ⟨by omega, by omega⟩ (fun h => absurd h (by omega)) (fun h => ?_)
  refine j_aload_0 20 dX6_init_19 rfl ?_
  refine j_get 23 0 gf_X6_11 dX6_init_20 rfl rfl ?_
  refine j_iload_1 24 dX6_init_23 rfl ?_
  refine j_new 27 (fs := [.null, .int 0]) tyX4 (ci := 4) rfl inX4 tyX4_ok wcl_X6_9 wn_X4 wi_ShapeMinima_Row (by decide +kernel) dX6_init_24 rfl (fun b0 => ?_)
  refine j_eqM (M' := [(h0, jO 6 [.ref h1, .null, .null, .null, .null, .null, .int 0, .int 0]), (h1, jR E 2 4 (fun _ => none)), (b0, jO 4 [.null, .int 0])]) rfl ?_
  refine j_dup 28 dX6_init_27 rfl ?_
  refine j_callI 31 Y_X4_init [2] [] (c_X4_init E b0) m_X4_init wml_X6_15 dX6_init_28 rfl rfl rfl rfl rfl rfl rfl (fun r N h => by obtain ⟨_, rfl, rfl⟩ := h; rfl) (fun r N h => ?_)
  obtain ⟨c0, rfl, rfl⟩ := h
  refine j_eqM (M' := [(h0, jO 6 [.ref h1, .null, .null, .null, .null, .null, .int 0, .int 0]), (h1, jR E 2 4 (fun _ => none)), (b0, jO 4 [.ref c0, .int (iI (-1))]), (c0, jA E 48 (fun _ => 0))]) rfl ?_
  refine j_aast2 32 1 2 0 dX6_init_31 rfl rfl rfl rfl (by decide) ?_
  refine j_eqM (M' := [(h0, jO 6 [.ref h1, .null, .null, .null, .null, .null, .int 0, .int 0]), (h1, jR E 2 4 (va_up (fun _ => none) 0 (some b0))), (b0, jO 4 [.ref c0, .int (iI (-1))]), (c0, jA E 48 (fun _ => 0))]) rfl ?_
  refine j_iinc 35 (lv' := [(0, .ref h0), (1, .int (iI 1))]) dX6_init_32 rfl rfl ⟨rfl, rfl⟩ ?_
  refine j_goto 14 dX6_init_35 ?_
  refine j_iload_1 15 dX6_init_14 rfl ?_
  refine j_iconst 16 dX6_init_15 ?_
  refine j_icmp_ge 38 19 dX6_init_16 ⟨by omega, by omega⟩ ⟨by omega, by omega⟩ (fun h => absurd h (by omega)) (fun h => ?_)
  refine j_aload_0 20 dX6_init_19 rfl ?_
  refine j_get 23 0 gf_X6_11 dX6_init_20 rfl rfl ?_
  refine j_iload_1 24 dX6_init_23 rfl ?_
  refine j_new 27 (fs := [.null, .int 0]) tyX4 (ci := 4) rfl inX4 tyX4_ok wcl_X6_9 wn_X4 wi_ShapeMinima_Row (by decide +kernel) dX6_init_24 rfl (fun b1 => ?_)
  refine j_eqM (M' := [(h0, jO 6 [.ref h1, .null, .null, .null, .null, .null, .int 0, .int 0]), (h1, jR E 2 4 (va_up (fun _ => none) 0 (some b0))), (b0, jO 4 [.ref c0, .int (iI (-1))]), (c0, jA E 48 (fun _ => 0)), (b1, jO 4 [.null, .int 0])]) rfl ?_
  refine j_dup 28 dX6_init_27 rfl ?_
  refine j_callI 31 Y_X4_init [4] [] (c_X4_init E b1) m_X4_init wml_X6_15 dX6_init_28 rfl rfl rfl rfl rfl rfl rfl (fun r N h => by obtain ⟨_, rfl, rfl⟩ := h; rfl) (fun r N h => ?_)
  obtain ⟨c1, rfl, rfl⟩ := h
  refine j_eqM (M' := [(h0, jO 6 [.ref h1, .null, .null, .null, .null, .null, .int 0, .int 0]), (h1, jR E 2 4 (va_up (fun _ => none) 0 (some b0))), (b0, jO 4 [.ref c0, .int (iI (-1))]), (c0, jA E 48 (fun _ => 0)), (b1, jO 4 [.ref c1, .int (iI (-1))]), (c1, jA E 48 (fun _ => 0))]) rfl ?_
  refine j_aast2 32 1 4 1 dX6_init_31 rfl rfl rfl rfl (by decide) ?_
  refine j_eqM (M' := [(h0, jO 6 [.ref h1, .null, .null, .null, .null, .null, .int 0, .int 0]), (h1, jR E 2 4 (va_up (va_up (fun _ => none) 0 (some b0)) 1 (some b1))), (b0, jO 4 [.ref c0, .int (iI (-1))]), (c0, jA E 48 (fun _ => 0)), (b1, jO 4 [.ref c1, .int (iI (-1))]), (c1, jA E 48 (fun _ => 0))]) rfl ?_
  refine j_iinc 35 (lv' := [(0, .ref h0), (1, .int (iI 2))]) dX6_init_32 rfl rfl ⟨rfl, rfl⟩ ?_
  refine j_goto 14 dX6_init_35 ?_
  refine j_iload_1 15 dX6_init_14 rfl ?_
  refine j_iconst 16 dX6_init_15 ?_
  refine j_icmp_ge 38 19 dX6_init_16 ⟨by omega, by omega⟩ ⟨by omega, by omega⟩ (fun h => absurd h (by omega)) (fun h => ?_)
  refine j_aload_0 20 dX6_init_19 rfl ?_
  refine j_get 23 0 gf_X6_11 dX6_init_20 rfl rfl ?_
  refine j_iload_1 24 dX6_init_23 rfl ?_
  refine j_new 27 (fs := [.null, .int 0]) tyX4 (ci := 4) rfl inX4 tyX4_ok wcl_X6_9 wn_X4 wi_ShapeMinima_Row (by decide +kernel) dX6_init_24 rfl (fun b2 => ?_)
  refine j_eqM (M' := [(h0, jO 6 [.ref h1, .null, .null, .null, .null, .null, .int 0, .int 0]), (h1, jR E 2 4 (va_up (va_up (fun _ => none) 0 (some b0)) 1 (some b1))), (b0, jO 4 [.ref c0, .int (iI (-1))]), (c0, jA E 48 (fun _ => 0)), (b1, jO 4 [.ref c1, .int (iI (-1))]), (c1, jA E 48 (fun _ => 0)), (b2, jO 4 [.null, .int 0])]) rfl ?_
  refine j_dup 28 dX6_init_27 rfl ?_
  refine j_callI 31 Y_X4_init [6] [] (c_X4_init E b2) m_X4_init wml_X6_15 dX6_init_28 rfl rfl rfl rfl rfl rfl rfl (fun r N h => by obtain ⟨_, rfl, rfl⟩ := h; rfl) (fun r N h => ?_)
  obtain ⟨c2, rfl, rfl⟩ := h
  refine j_eqM (M' := [(h0, jO 6 [.ref h1, .null, .null, .null, .null, .null, .int 0, .int 0]), (h1, jR E 2 4 (va_up (va_up (fun _ => none) 0 (some b0)) 1 (some b1))), (b0, jO 4 [.ref c0, .int (iI (-1))]), (c0, jA E 48 (fun _ => 0)), (b1, jO 4 [.ref c1, .int (iI (-1))]), (c1, jA E 48 (fun _ => 0)), (b2, jO 4 [.ref c2, .int (iI (-1))]), (c2, jA E 48 (fun _ => 0))]) rfl ?_
  refine j_aast2 32 1 6 2 dX6_init_31 rfl rfl rfl rfl (by decide) ?_
  refine j_eqM (M' := [(h0, jO 6 [.ref h1, .null, .null, .null, .null, .null, .int 0, .int 0]), (h1, jR E 2 4 (va_up (va_up (va_up (fun _ => none) 0 (some b0)) 1 (some b1)) 2 (some b2))), (b0, jO 4 [.ref c0, .int (iI (-1))]), (c0, jA E 48 (fun _ => 0)), (b1, jO 4 [.ref c1, .int (iI (-1))]), (c1, jA E 48 (fun _ => 0)), (b2, jO 4 [.ref c2, .int (iI (-1))]), (c2, jA E 48 (fun _ => 0))]) rfl ?_
  refine j_iinc 35 (lv' := [(0, .ref h0), (1, .int (iI 3))]) dX6_init_32 rfl rfl ⟨rfl, rfl⟩ ?_
  refine j_goto 14 dX6_init_35 ?_
  refine j_iload_1 15 dX6_init_14 rfl ?_
  refine j_iconst 16 dX6_init_15 ?_
  refine j_icmp_ge 38 19 dX6_init_16 ⟨by omega, by omega⟩ ⟨by omega, by omega⟩ (fun h => absurd h (by omega)) (fun h => ?_)
  refine j_aload_0 20 dX6_init_19 rfl ?_
  refine j_get 23 0 gf_X6_11 dX6_init_20 rfl rfl ?_
  refine j_iload_1 24 dX6_init_23 rfl ?_
  refine j_new 27 (fs := [.null, .int 0]) tyX4 (ci := 4) rfl inX4 tyX4_ok wcl_X6_9 wn_X4 wi_ShapeMinima_Row (by decide +kernel) dX6_init_24 rfl (fun b3 => ?_)
  refine j_eqM (M' := [(h0, jO 6 [.ref h1, .null, .null, .null, .null, .null, .int 0, .int 0]), (h1, jR E 2 4 (va_up (va_up (va_up (fun _ => none) 0 (some b0)) 1 (some b1)) 2 (some b2))), (b0, jO 4 [.ref c0, .int (iI (-1))]), (c0, jA E 48 (fun _ => 0)), (b1, jO 4 [.ref c1, .int (iI (-1))]), (c1, jA E 48 (fun _ => 0)), (b2, jO 4 [.ref c2, .int (iI (-1))]), (c2, jA E 48 (fun _ => 0)), (b3, jO 4 [.null, .int 0])]) rfl ?_
  refine j_dup 28 dX6_init_27 rfl ?_
  refine j_callI 31 Y_X4_init [8] [] (c_X4_init E b3) m_X4_init wml_X6_15 dX6_init_28 rfl rfl rfl rfl rfl rfl rfl (fun r N h => by obtain ⟨_, rfl, rfl⟩ := h; rfl) (fun r N h => ?_)
  obtain ⟨c3, rfl, rfl⟩ := h
  refine j_eqM (M' := [(h0, jO 6 [.ref h1, .null, .null, .null, .null, .null, .int 0, .int 0]), (h1, jR E 2 4 (va_up (va_up (va_up (fun _ => none) 0 (some b0)) 1 (some b1)) 2 (some b2))), (b0, jO 4 [.ref c0, .int (iI (-1))]), (c0, jA E 48 (fun _ => 0)), (b1, jO 4 [.ref c1, .int (iI (-1))]), (c1, jA E 48 (fun _ => 0)), (b2, jO 4 [.ref c2, .int (iI (-1))]), (c2, jA E 48 (fun _ => 0)), (b3, jO 4 [.ref c3, .int (iI (-1))]), (c3, jA E 48 (fun _ => 0))]) rfl ?_
  refine j_aast2 32 1 8 3 dX6_init_31 rfl rfl rfl rfl (by decide) ?_
  refine j_eqM (M' := [(h0, jO 6 [.ref h1, .null, .null, .null, .null, .null, .int 0, .int 0]), (h1, jR E 2 4 (va_up (va_up (va_up (va_up (fun _ => none) 0 (some b0)) 1 (some b1)) 2 (some b2)) 3 (some b3))), (b0, jO 4 [.ref c0, .int (iI (-1))]), (c0, jA E 48 (fun _ => 0)), (b1, jO 4 [.ref c1, .int (iI (-1))]), (c1, jA E 48 (fun _ => 0)), (b2, jO 4 [.ref c2, .int (iI (-1))]), (c2, jA E 48 (fun _ => 0)), (b3, jO 4 [.ref c3, .int (iI (-1))]), (c3, jA E 48 (fun _ => 0))]) rfl ?_
  refine j_iinc 35 (lv' := [(0, .ref h0), (1, .int (iI 4))]) dX6_init_32 rfl rfl ⟨rfl, rfl⟩ ?_
  refine j_goto 14 dX6_init_35 ?_
  refine j_iload_1 15 dX6_init_14 rfl ?_
  refine j_iconst 16 dX6_init_15 ?_
  refine j_icmp_ge 38 19 dX6_init_16 ⟨by omega, by omega⟩ ⟨by omega, by omega⟩ (fun h => ?_) (fun h => absurd h (by omega))
  refine j_aload_0 39 dX6_init_38 rfl ?_
  refine j_iconst 40 dX6_init_39 ?_
  refine j_newq3 43 2 rfl rfl wcl_X6_16 dX6_init_40 rfl (fun h10 => ?_)
  refine j_eqM (M' := [(h0, jO 6 [.ref h1, .null, .null, .null, .null, .null, .int 0, .int 0]), (h1, jR E 2 4 (va_up (va_up (va_up (va_up (fun _ => none) 0 (some b0)) 1 (some b1)) 2 (some b2)) 3 (some b3))), (b0, jO 4 [.ref c0, .int (iI (-1))]), (c0, jA E 48 (fun _ => 0)), (b1, jO 4 [.ref c1, .int (iI (-1))]), (c1, jA E 48 (fun _ => 0)), (b2, jO 4 [.ref c2, .int (iI (-1))]), (c2, jA E 48 (fun _ => 0)), (b3, jO 4 [.ref c3, .int (iI (-1))]), (c3, jA E 48 (fun _ => 0)), (h10, jR E 3 2 (fun _ => none))]) rfl ?_
  refine j_putF 46 0 pf_X6_18 rfl rfl dX6_init_43 rfl ⟨rfl, rfl, rfl⟩ ?_
  refine j_eqM (M' := [(h0, jO 6 [.ref h1, .null, .null, .ref h10, .null, .null, .int 0, .int 0]), (h1, jR E 2 4 (va_up (va_up (va_up (va_up (fun _ => none) 0 (some b0)) 1 (some b1)) 2 (some b2)) 3 (some b3))), (b0, jO 4 [.ref c0, .int (iI (-1))]), (c0, jA E 48 (fun _ => 0)), (b1, jO 4 [.ref c1, .int (iI (-1))]), (c1, jA E 48 (fun _ => 0)), (b2, jO 4 [.ref c2, .int (iI (-1))]), (c2, jA E 48 (fun _ => 0)), (b3, jO 4 [.ref c3, .int (iI (-1))]), (c3, jA E 48 (fun _ => 0)), (h10, jR E 3 2 (fun _ => none))]) rfl ?_
  refine j_iconst 47 dX6_init_46 ?_
  refine j_istore_1 48 (lv' := [(0, _), (1, _)]) dX6_init_47 rfl ⟨rfl, rfl⟩ ?_
  refine j_iload_1 49 dX6_init_48 rfl ?_
  refine j_iconst 50 dX6_init_49 ?_
  refine j_icmp_ge 72 53 dX6_init_50 ⟨by omega, by omega⟩ ⟨by omega, by omega⟩ (fun h => absurd h (by omega)) (fun h => ?_)
  refine j_aload_0 54 dX6_init_53 rfl ?_
  refine j_get 57 0 gf_X6_18 dX6_init_54 rfl rfl ?_
  refine j_iload_1 58 dX6_init_57 rfl ?_
  refine j_new 61 (fs := [.null, .int 0]) tyX2 (ci := 2) rfl inX2 tyX2_ok wcl_X6_16 wn_X2 wi_ShapeMinima_Image (by decide +kernel) dX6_init_58 rfl (fun i0 => ?_)
  refine j_eqM (M' := [(h0, jO 6 [.ref h1, .null, .null, .ref h10, .null, .null, .int 0, .int 0]), (h1, jR E 2 4 (va_up (va_up (va_up (va_up (fun _ => none) 0 (some b0)) 1 (some b1)) 2 (some b2)) 3 (some b3))), (b0, jO 4 [.ref c0, .int (iI (-1))]), (c0, jA E 48 (fun _ => 0)), (b1, jO 4 [.ref c1, .int (iI (-1))]), (c1, jA E 48 (fun _ => 0)), (b2, jO 4 [.ref c2, .int (iI (-1))]), (c2, jA E 48 (fun _ => 0)), (b3, jO 4 [.ref c3, .int (iI (-1))]), (c3, jA E 48 (fun _ => 0)), (h10, jR E 3 2 (fun _ => none)), (i0, jO 2 [.null, .int 0])]) rfl ?_
  refine j_dup 62 dX6_init_61 rfl ?_
  refine j_callI 65 Y_X2_init [11] [] (c_X2_init E i0) m_X2_init wml_X6_22 dX6_init_62 rfl rfl rfl rfl rfl rfl rfl (fun r N h => by obtain ⟨_, _, rfl, rfl⟩ := h; rfl) (fun r N h => ?_)
  obtain ⟨j0, k0, rfl, rfl⟩ := h
  refine j_eqM (M' := [(h0, jO 6 [.ref h1, .null, .null, .ref h10, .null, .null, .int 0, .int 0]), (h1, jR E 2 4 (va_up (va_up (va_up (va_up (fun _ => none) 0 (some b0)) 1 (some b1)) 2 (some b2)) 3 (some b3))), (b0, jO 4 [.ref c0, .int (iI (-1))]), (c0, jA E 48 (fun _ => 0)), (b1, jO 4 [.ref c1, .int (iI (-1))]), (c1, jA E 48 (fun _ => 0)), (b2, jO 4 [.ref c2, .int (iI (-1))]), (c2, jA E 48 (fun _ => 0)), (b3, jO 4 [.ref c3, .int (iI (-1))]), (c3, jA E 48 (fun _ => 0)), (h10, jR E 3 2 (fun _ => none)), (i0, jO 2 [.ref j0, .int (iI 0)]), (j0, jO 4 [.ref k0, .int (iI (-1))]), (k0, jA E 48 (fun _ => 0))]) rfl ?_
  refine j_aast3 66 10 11 0 dX6_init_65 rfl rfl rfl rfl (by decide) ?_
  refine j_eqM (M' := [(h0, jO 6 [.ref h1, .null, .null, .ref h10, .null, .null, .int 0, .int 0]), (h1, jR E 2 4 (va_up (va_up (va_up (va_up (fun _ => none) 0 (some b0)) 1 (some b1)) 2 (some b2)) 3 (some b3))), (b0, jO 4 [.ref c0, .int (iI (-1))]), (c0, jA E 48 (fun _ => 0)), (b1, jO 4 [.ref c1, .int (iI (-1))]), (c1, jA E 48 (fun _ => 0)), (b2, jO 4 [.ref c2, .int (iI (-1))]), (c2, jA E 48 (fun _ => 0)), (b3, jO 4 [.ref c3, .int (iI (-1))]), (c3, jA E 48 (fun _ => 0)), (h10, jR E 3 2 (va_up (fun _ => none) 0 (some i0))), (i0, jO 2 [.ref j0, .int (iI 0)]), (j0, jO 4 [.ref k0, .int (iI (-1))]), (k0, jA E 48 (fun _ => 0))]) rfl ?_
  refine j_iinc 69 (lv' := [(0, .ref h0), (1, .int (iI 1))]) dX6_init_66 rfl rfl ⟨rfl, rfl⟩ ?_
  refine j_goto 48 dX6_init_69 ?_
  refine j_iload_1 49 dX6_init_48 rfl ?_
  refine j_iconst 50 dX6_init_49 ?_
  refine j_icmp_ge 72 53 dX6_init_50 ⟨by omega, by omega⟩ ⟨by omega, by omega⟩ (fun h => absurd h (by omega)) (fun h => ?_)
  refine j_aload_0 54 dX6_init_53 rfl ?_
  refine j_get 57 0 gf_X6_18 dX6_init_54 rfl rfl ?_
  refine j_iload_1 58 dX6_init_57 rfl ?_
  refine j_new 61 (fs := [.null, .int 0]) tyX2 (ci := 2) rfl inX2 tyX2_ok wcl_X6_16 wn_X2 wi_ShapeMinima_Image (by decide +kernel) dX6_init_58 rfl (fun i1 => ?_)
  refine j_eqM (M' := [(h0, jO 6 [.ref h1, .null, .null, .ref h10, .null, .null, .int 0, .int 0]), (h1, jR E 2 4 (va_up (va_up (va_up (va_up (fun _ => none) 0 (some b0)) 1 (some b1)) 2 (some b2)) 3 (some b3))), (b0, jO 4 [.ref c0, .int (iI (-1))]), (c0, jA E 48 (fun _ => 0)), (b1, jO 4 [.ref c1, .int (iI (-1))]), (c1, jA E 48 (fun _ => 0)), (b2, jO 4 [.ref c2, .int (iI (-1))]), (c2, jA E 48 (fun _ => 0)), (b3, jO 4 [.ref c3, .int (iI (-1))]), (c3, jA E 48 (fun _ => 0)), (h10, jR E 3 2 (va_up (fun _ => none) 0 (some i0))), (i0, jO 2 [.ref j0, .int (iI 0)]), (j0, jO 4 [.ref k0, .int (iI (-1))]), (k0, jA E 48 (fun _ => 0)), (i1, jO 2 [.null, .int 0])]) rfl ?_
  refine j_dup 62 dX6_init_61 rfl ?_
  refine j_callI 65 Y_X2_init [14] [] (c_X2_init E i1) m_X2_init wml_X6_22 dX6_init_62 rfl rfl rfl rfl rfl rfl rfl (fun r N h => by obtain ⟨_, _, rfl, rfl⟩ := h; rfl) (fun r N h => ?_)
  obtain ⟨j1, k1, rfl, rfl⟩ := h
  refine j_eqM (M' := [(h0, jO 6 [.ref h1, .null, .null, .ref h10, .null, .null, .int 0, .int 0]), (h1, jR E 2 4 (va_up (va_up (va_up (va_up (fun _ => none) 0 (some b0)) 1 (some b1)) 2 (some b2)) 3 (some b3))), (b0, jO 4 [.ref c0, .int (iI (-1))]), (c0, jA E 48 (fun _ => 0)), (b1, jO 4 [.ref c1, .int (iI (-1))]), (c1, jA E 48 (fun _ => 0)), (b2, jO 4 [.ref c2, .int (iI (-1))]), (c2, jA E 48 (fun _ => 0)), (b3, jO 4 [.ref c3, .int (iI (-1))]), (c3, jA E 48 (fun _ => 0)), (h10, jR E 3 2 (va_up (fun _ => none) 0 (some i0))), (i0, jO 2 [.ref j0, .int (iI 0)]), (j0, jO 4 [.ref k0, .int (iI (-1))]), (k0, jA E 48 (fun _ => 0)), (i1, jO 2 [.ref j1, .int (iI 0)]), (j1, jO 4 [.ref k1, .int (iI (-1))]), (k1, jA E 48 (fun _ => 0))]) rfl ?_
  refine j_aast3 66 10 14 1 dX6_init_65 rfl rfl rfl rfl (by decide) ?_
  refine j_eqM (M' := [(h0, jO 6 [.ref h1, .null, .null, .ref h10, .null, .null, .int 0, .int 0]), (h1, jR E 2 4 (va_up (va_up (va_up (va_up (fun _ => none) 0 (some b0)) 1 (some b1)) 2 (some b2)) 3 (some b3))), (b0, jO 4 [.ref c0, .int (iI (-1))]), (c0, jA E 48 (fun _ => 0)), (b1, jO 4 [.ref c1, .int (iI (-1))]), (c1, jA E 48 (fun _ => 0)), (b2, jO 4 [.ref c2, .int (iI (-1))]), (c2, jA E 48 (fun _ => 0)), (b3, jO 4 [.ref c3, .int (iI (-1))]), (c3, jA E 48 (fun _ => 0)), (h10, jR E 3 2 (va_up (va_up (fun _ => none) 0 (some i0)) 1 (some i1))), (i0, jO 2 [.ref j0, .int (iI 0)]), (j0, jO 4 [.ref k0, .int (iI (-1))]), (k0, jA E 48 (fun _ => 0)), (i1, jO 2 [.ref j1, .int (iI 0)]), (j1, jO 4 [.ref k1, .int (iI (-1))]), (k1, jA E 48 (fun _ => 0))]) rfl ?_
  refine j_iinc 69 (lv' := [(0, .ref h0), (1, .int (iI 2))]) dX6_init_66 rfl rfl ⟨rfl, rfl⟩ ?_
  refine j_goto 48 dX6_init_69 ?_
  refine j_iload_1 49 dX6_init_48 rfl ?_
  refine j_iconst 50 dX6_init_49 ?_
  refine j_icmp_ge 72 53 dX6_init_50 ⟨by omega, by omega⟩ ⟨by omega, by omega⟩ (fun h => ?_) (fun h => absurd h (by omega))
  refine j_aload_0 73 dX6_init_72 rfl ?_
  refine j_new 76 (fs := [.null, .null, .null, .null, .int 0, .int 0]) tyX3 (ci := 3) rfl inX3 tyX3_ok wcl_X6_23 wn_X3 wi_ShapeMinima_Index (by decide +kernel) dX6_init_73 rfl (fun x0 => ?_)
  refine j_eqM (M' := [(h0, jO 6 [.ref h1, .null, .null, .ref h10, .null, .null, .int 0, .int 0]), (h1, jR E 2 4 (va_up (va_up (va_up (va_up (fun _ => none) 0 (some b0)) 1 (some b1)) 2 (some b2)) 3 (some b3))), (b0, jO 4 [.ref c0, .int (iI (-1))]), (c0, jA E 48 (fun _ => 0)), (b1, jO 4 [.ref c1, .int (iI (-1))]), (c1, jA E 48 (fun _ => 0)), (b2, jO 4 [.ref c2, .int (iI (-1))]), (c2, jA E 48 (fun _ => 0)), (b3, jO 4 [.ref c3, .int (iI (-1))]), (c3, jA E 48 (fun _ => 0)), (h10, jR E 3 2 (va_up (va_up (fun _ => none) 0 (some i0)) 1 (some i1))), (i0, jO 2 [.ref j0, .int (iI 0)]), (j0, jO 4 [.ref k0, .int (iI (-1))]), (k0, jA E 48 (fun _ => 0)), (i1, jO 2 [.ref j1, .int (iI 0)]), (j1, jO 4 [.ref k1, .int (iI (-1))]), (k1, jA E 48 (fun _ => 0)), (x0, jO 3 [.null, .null, .null, .null, .int 0, .int 0])]) rfl ?_
  refine j_dup 77 dX6_init_76 rfl ?_
  refine j_callI 80 Y_X3_init [17] [] (c_X3_init E x0) m_X3_init wml_X6_25 dX6_init_77 rfl rfl rfl rfl rfl rfl rfl (fun r N h => by obtain ⟨_, _, _, _, _, _, rfl, rfl⟩ := h; rfl) (fun r N h => ?_)
  obtain ⟨x1, x2, x3, x4, x5, x6, rfl, rfl⟩ := h
  refine j_eqM (M' := [(h0, jO 6 [.ref h1, .null, .null, .ref h10, .null, .null, .int 0, .int 0]), (h1, jR E 2 4 (va_up (va_up (va_up (va_up (fun _ => none) 0 (some b0)) 1 (some b1)) 2 (some b2)) 3 (some b3))), (b0, jO 4 [.ref c0, .int (iI (-1))]), (c0, jA E 48 (fun _ => 0)), (b1, jO 4 [.ref c1, .int (iI (-1))]), (c1, jA E 48 (fun _ => 0)), (b2, jO 4 [.ref c2, .int (iI (-1))]), (c2, jA E 48 (fun _ => 0)), (b3, jO 4 [.ref c3, .int (iI (-1))]), (c3, jA E 48 (fun _ => 0)), (h10, jR E 3 2 (va_up (va_up (fun _ => none) 0 (some i0)) 1 (some i1))), (i0, jO 2 [.ref j0, .int (iI 0)]), (j0, jO 4 [.ref k0, .int (iI (-1))]), (k0, jA E 48 (fun _ => 0)), (i1, jO 2 [.ref j1, .int (iI 0)]), (j1, jO 4 [.ref k1, .int (iI (-1))]), (k1, jA E 48 (fun _ => 0)), (x0, jO 3 [.ref x1, .ref x3, .ref x4, .ref x6, .int (iI 0), .int (iI 0)]), (x1, jO 4 [.ref x2, .int (iI (-1))]), (x2, jA E 48 (fun _ => 0)), (x3, jA E 48 (fun _ => 0)), (x4, jO 5 [.ref x5, .int (iI 0)]), (x5, jL E 64 (fun _ => 0)), (x6, jA E 6 (fun _ => 0))]) rfl ?_
  refine j_putF 83 0 pf_X6_26 rfl rfl dX6_init_80 rfl ⟨rfl, rfl, rfl⟩ ?_
  refine j_eqM (M' := [(h0, jO 6 [.ref h1, .ref x0, .null, .ref h10, .null, .null, .int 0, .int 0]), (h1, jR E 2 4 (va_up (va_up (va_up (va_up (fun _ => none) 0 (some b0)) 1 (some b1)) 2 (some b2)) 3 (some b3))), (b0, jO 4 [.ref c0, .int (iI (-1))]), (c0, jA E 48 (fun _ => 0)), (b1, jO 4 [.ref c1, .int (iI (-1))]), (c1, jA E 48 (fun _ => 0)), (b2, jO 4 [.ref c2, .int (iI (-1))]), (c2, jA E 48 (fun _ => 0)), (b3, jO 4 [.ref c3, .int (iI (-1))]), (c3, jA E 48 (fun _ => 0)), (h10, jR E 3 2 (va_up (va_up (fun _ => none) 0 (some i0)) 1 (some i1))), (i0, jO 2 [.ref j0, .int (iI 0)]), (j0, jO 4 [.ref k0, .int (iI (-1))]), (k0, jA E 48 (fun _ => 0)), (i1, jO 2 [.ref j1, .int (iI 0)]), (j1, jO 4 [.ref k1, .int (iI (-1))]), (k1, jA E 48 (fun _ => 0)), (x0, jO 3 [.ref x1, .ref x3, .ref x4, .ref x6, .int (iI 0), .int (iI 0)]), (x1, jO 4 [.ref x2, .int (iI (-1))]), (x2, jA E 48 (fun _ => 0)), (x3, jA E 48 (fun _ => 0)), (x4, jO 5 [.ref x5, .int (iI 0)]), (x5, jL E 64 (fun _ => 0)), (x6, jA E 6 (fun _ => 0))]) rfl ?_
  refine j_aload_0 84 dX6_init_83 rfl ?_
  refine j_new 87 (fs := [.null, .null, .int 0]) tyX1 (ci := 1) rfl inX1 tyX1_ok wcl_X6_30 wn_X1 wi_ShapeMinima_History (by decide +kernel) dX6_init_84 rfl (fun g0 => ?_)
  refine j_eqM (M' := [(h0, jO 6 [.ref h1, .ref x0, .null, .ref h10, .null, .null, .int 0, .int 0]), (h1, jR E 2 4 (va_up (va_up (va_up (va_up (fun _ => none) 0 (some b0)) 1 (some b1)) 2 (some b2)) 3 (some b3))), (b0, jO 4 [.ref c0, .int (iI (-1))]), (c0, jA E 48 (fun _ => 0)), (b1, jO 4 [.ref c1, .int (iI (-1))]), (c1, jA E 48 (fun _ => 0)), (b2, jO 4 [.ref c2, .int (iI (-1))]), (c2, jA E 48 (fun _ => 0)), (b3, jO 4 [.ref c3, .int (iI (-1))]), (c3, jA E 48 (fun _ => 0)), (h10, jR E 3 2 (va_up (va_up (fun _ => none) 0 (some i0)) 1 (some i1))), (i0, jO 2 [.ref j0, .int (iI 0)]), (j0, jO 4 [.ref k0, .int (iI (-1))]), (k0, jA E 48 (fun _ => 0)), (i1, jO 2 [.ref j1, .int (iI 0)]), (j1, jO 4 [.ref k1, .int (iI (-1))]), (k1, jA E 48 (fun _ => 0)), (x0, jO 3 [.ref x1, .ref x3, .ref x4, .ref x6, .int (iI 0), .int (iI 0)]), (x1, jO 4 [.ref x2, .int (iI (-1))]), (x2, jA E 48 (fun _ => 0)), (x3, jA E 48 (fun _ => 0)), (x4, jO 5 [.ref x5, .int (iI 0)]), (x5, jL E 64 (fun _ => 0)), (x6, jA E 6 (fun _ => 0)), (g0, jO 1 [.null, .null, .int 0])]) rfl ?_
  refine j_dup 88 dX6_init_87 rfl ?_
  refine j_callI 91 Y_X1_init [24] [] (c_X1_init E g0) m_X1_init wml_X6_32 dX6_init_88 rfl rfl rfl rfl rfl rfl rfl (fun r N h => by obtain ⟨_, _, rfl, rfl⟩ := h; rfl) (fun r N h => ?_)
  obtain ⟨g1, g2, rfl, rfl⟩ := h
  refine j_eqM (M' := [(h0, jO 6 [.ref h1, .ref x0, .null, .ref h10, .null, .null, .int 0, .int 0]), (h1, jR E 2 4 (va_up (va_up (va_up (va_up (fun _ => none) 0 (some b0)) 1 (some b1)) 2 (some b2)) 3 (some b3))), (b0, jO 4 [.ref c0, .int (iI (-1))]), (c0, jA E 48 (fun _ => 0)), (b1, jO 4 [.ref c1, .int (iI (-1))]), (c1, jA E 48 (fun _ => 0)), (b2, jO 4 [.ref c2, .int (iI (-1))]), (c2, jA E 48 (fun _ => 0)), (b3, jO 4 [.ref c3, .int (iI (-1))]), (c3, jA E 48 (fun _ => 0)), (h10, jR E 3 2 (va_up (va_up (fun _ => none) 0 (some i0)) 1 (some i1))), (i0, jO 2 [.ref j0, .int (iI 0)]), (j0, jO 4 [.ref k0, .int (iI (-1))]), (k0, jA E 48 (fun _ => 0)), (i1, jO 2 [.ref j1, .int (iI 0)]), (j1, jO 4 [.ref k1, .int (iI (-1))]), (k1, jA E 48 (fun _ => 0)), (x0, jO 3 [.ref x1, .ref x3, .ref x4, .ref x6, .int (iI 0), .int (iI 0)]), (x1, jO 4 [.ref x2, .int (iI (-1))]), (x2, jA E 48 (fun _ => 0)), (x3, jA E 48 (fun _ => 0)), (x4, jO 5 [.ref x5, .int (iI 0)]), (x5, jL E 64 (fun _ => 0)), (x6, jA E 6 (fun _ => 0)), (g0, jO 1 [.ref g1, .ref g2, .int (iI 0)]), (g1, jA E 10 (fun _ => 0)), (g2, jA E 10 (fun _ => 0))]) rfl ?_
  refine j_putF 94 0 pf_X6_33 rfl rfl dX6_init_91 rfl ⟨rfl, rfl, rfl⟩ ?_
  refine j_eqM (M' := [(h0, jO 6 [.ref h1, .ref x0, .ref g0, .ref h10, .null, .null, .int 0, .int 0]), (h1, jR E 2 4 (va_up (va_up (va_up (va_up (fun _ => none) 0 (some b0)) 1 (some b1)) 2 (some b2)) 3 (some b3))), (b0, jO 4 [.ref c0, .int (iI (-1))]), (c0, jA E 48 (fun _ => 0)), (b1, jO 4 [.ref c1, .int (iI (-1))]), (c1, jA E 48 (fun _ => 0)), (b2, jO 4 [.ref c2, .int (iI (-1))]), (c2, jA E 48 (fun _ => 0)), (b3, jO 4 [.ref c3, .int (iI (-1))]), (c3, jA E 48 (fun _ => 0)), (h10, jR E 3 2 (va_up (va_up (fun _ => none) 0 (some i0)) 1 (some i1))), (i0, jO 2 [.ref j0, .int (iI 0)]), (j0, jO 4 [.ref k0, .int (iI (-1))]), (k0, jA E 48 (fun _ => 0)), (i1, jO 2 [.ref j1, .int (iI 0)]), (j1, jO 4 [.ref k1, .int (iI (-1))]), (k1, jA E 48 (fun _ => 0)), (x0, jO 3 [.ref x1, .ref x3, .ref x4, .ref x6, .int (iI 0), .int (iI 0)]), (x1, jO 4 [.ref x2, .int (iI (-1))]), (x2, jA E 48 (fun _ => 0)), (x3, jA E 48 (fun _ => 0)), (x4, jO 5 [.ref x5, .int (iI 0)]), (x5, jL E 64 (fun _ => 0)), (x6, jA E 6 (fun _ => 0)), (g0, jO 1 [.ref g1, .ref g2, .int (iI 0)]), (g1, jA E 10 (fun _ => 0)), (g2, jA E 10 (fun _ => 0))]) rfl ?_
  refine j_aload_0 95 dX6_init_94 rfl ?_
  refine j_new 98 (fs := [.null, .null, .null, .null, .null, .null, .null, .int 0]) tyX0 (ci := 0) rfl inX0 tyX0_ok wcl_X6_37 wn_X0 wi_ShapeMinima_Family (by decide +kernel) dX6_init_95 rfl (fun y0 => ?_)
  refine j_eqM (M' := [(h0, jO 6 [.ref h1, .ref x0, .ref g0, .ref h10, .null, .null, .int 0, .int 0]), (h1, jR E 2 4 (va_up (va_up (va_up (va_up (fun _ => none) 0 (some b0)) 1 (some b1)) 2 (some b2)) 3 (some b3))), (b0, jO 4 [.ref c0, .int (iI (-1))]), (c0, jA E 48 (fun _ => 0)), (b1, jO 4 [.ref c1, .int (iI (-1))]), (c1, jA E 48 (fun _ => 0)), (b2, jO 4 [.ref c2, .int (iI (-1))]), (c2, jA E 48 (fun _ => 0)), (b3, jO 4 [.ref c3, .int (iI (-1))]), (c3, jA E 48 (fun _ => 0)), (h10, jR E 3 2 (va_up (va_up (fun _ => none) 0 (some i0)) 1 (some i1))), (i0, jO 2 [.ref j0, .int (iI 0)]), (j0, jO 4 [.ref k0, .int (iI (-1))]), (k0, jA E 48 (fun _ => 0)), (i1, jO 2 [.ref j1, .int (iI 0)]), (j1, jO 4 [.ref k1, .int (iI (-1))]), (k1, jA E 48 (fun _ => 0)), (x0, jO 3 [.ref x1, .ref x3, .ref x4, .ref x6, .int (iI 0), .int (iI 0)]), (x1, jO 4 [.ref x2, .int (iI (-1))]), (x2, jA E 48 (fun _ => 0)), (x3, jA E 48 (fun _ => 0)), (x4, jO 5 [.ref x5, .int (iI 0)]), (x5, jL E 64 (fun _ => 0)), (x6, jA E 6 (fun _ => 0)), (g0, jO 1 [.ref g1, .ref g2, .int (iI 0)]), (g1, jA E 10 (fun _ => 0)), (g2, jA E 10 (fun _ => 0)), (y0, jO 0 [.null, .null, .null, .null, .null, .null, .null, .int 0])]) rfl ?_
  refine j_dup 99 dX6_init_98 rfl ?_
  refine j_callI 102 Y_X0_init [27] [] (c_X0_init E y0) m_X0_init wml_X6_39 dX6_init_99 rfl rfl rfl rfl rfl rfl rfl (fun r N h => by obtain ⟨_, _, _, _, _, _, _, _, _, _, _, _, _, _, rfl, rfl⟩ := h; rfl) (fun r N h => ?_)
  obtain ⟨y1, y2, y3, y4, y5, y6, y7, y8, y9, y10, y11, y12, y13, y14, rfl, rfl⟩ := h
  refine j_eqM (M' := [(h0, jO 6 [.ref h1, .ref x0, .ref g0, .ref h10, .null, .null, .int 0, .int 0]), (h1, jR E 2 4 (va_up (va_up (va_up (va_up (fun _ => none) 0 (some b0)) 1 (some b1)) 2 (some b2)) 3 (some b3))), (b0, jO 4 [.ref c0, .int (iI (-1))]), (c0, jA E 48 (fun _ => 0)), (b1, jO 4 [.ref c1, .int (iI (-1))]), (c1, jA E 48 (fun _ => 0)), (b2, jO 4 [.ref c2, .int (iI (-1))]), (c2, jA E 48 (fun _ => 0)), (b3, jO 4 [.ref c3, .int (iI (-1))]), (c3, jA E 48 (fun _ => 0)), (h10, jR E 3 2 (va_up (va_up (fun _ => none) 0 (some i0)) 1 (some i1))), (i0, jO 2 [.ref j0, .int (iI 0)]), (j0, jO 4 [.ref k0, .int (iI (-1))]), (k0, jA E 48 (fun _ => 0)), (i1, jO 2 [.ref j1, .int (iI 0)]), (j1, jO 4 [.ref k1, .int (iI (-1))]), (k1, jA E 48 (fun _ => 0)), (x0, jO 3 [.ref x1, .ref x3, .ref x4, .ref x6, .int (iI 0), .int (iI 0)]), (x1, jO 4 [.ref x2, .int (iI (-1))]), (x2, jA E 48 (fun _ => 0)), (x3, jA E 48 (fun _ => 0)), (x4, jO 5 [.ref x5, .int (iI 0)]), (x5, jL E 64 (fun _ => 0)), (x6, jA E 6 (fun _ => 0)), (g0, jO 1 [.ref g1, .ref g2, .int (iI 0)]), (g1, jA E 10 (fun _ => 0)), (g2, jA E 10 (fun _ => 0)), (y0, jO 0 [.ref y1, .ref y2, .ref y3, .ref y4, .ref y5, .ref y6, .ref y8, .int (iI 0)]), (y1, jA E 24 (fun _ => 0)), (y2, jA E 24 (fun _ => 0)), (y3, jA E 24 (fun _ => 0)), (y4, jA E 24 (fun _ => 0)), (y5, jA E 47 (fun _ => 0)), (y6, jO 4 [.ref y7, .int (iI (-1))]), (y7, jA E 48 (fun _ => 0)), (y8, jO 3 [.ref y9, .ref y11, .ref y12, .ref y14, .int (iI 0), .int (iI 0)]), (y9, jO 4 [.ref y10, .int (iI (-1))]), (y10, jA E 48 (fun _ => 0)), (y11, jA E 48 (fun _ => 0)), (y12, jO 5 [.ref y13, .int (iI 0)]), (y13, jL E 64 (fun _ => 0)), (y14, jA E 6 (fun _ => 0))]) rfl ?_
  refine j_putF 105 0 pf_X6_40 rfl rfl dX6_init_102 rfl ⟨rfl, rfl, rfl⟩ ?_
  refine j_eqM (M' := [(h0, jO 6 [.ref h1, .ref x0, .ref g0, .ref h10, .ref y0, .null, .int 0, .int 0]), (h1, jR E 2 4 (va_up (va_up (va_up (va_up (fun _ => none) 0 (some b0)) 1 (some b1)) 2 (some b2)) 3 (some b3))), (b0, jO 4 [.ref c0, .int (iI (-1))]), (c0, jA E 48 (fun _ => 0)), (b1, jO 4 [.ref c1, .int (iI (-1))]), (c1, jA E 48 (fun _ => 0)), (b2, jO 4 [.ref c2, .int (iI (-1))]), (c2, jA E 48 (fun _ => 0)), (b3, jO 4 [.ref c3, .int (iI (-1))]), (c3, jA E 48 (fun _ => 0)), (h10, jR E 3 2 (va_up (va_up (fun _ => none) 0 (some i0)) 1 (some i1))), (i0, jO 2 [.ref j0, .int (iI 0)]), (j0, jO 4 [.ref k0, .int (iI (-1))]), (k0, jA E 48 (fun _ => 0)), (i1, jO 2 [.ref j1, .int (iI 0)]), (j1, jO 4 [.ref k1, .int (iI (-1))]), (k1, jA E 48 (fun _ => 0)), (x0, jO 3 [.ref x1, .ref x3, .ref x4, .ref x6, .int (iI 0), .int (iI 0)]), (x1, jO 4 [.ref x2, .int (iI (-1))]), (x2, jA E 48 (fun _ => 0)), (x3, jA E 48 (fun _ => 0)), (x4, jO 5 [.ref x5, .int (iI 0)]), (x5, jL E 64 (fun _ => 0)), (x6, jA E 6 (fun _ => 0)), (g0, jO 1 [.ref g1, .ref g2, .int (iI 0)]), (g1, jA E 10 (fun _ => 0)), (g2, jA E 10 (fun _ => 0)), (y0, jO 0 [.ref y1, .ref y2, .ref y3, .ref y4, .ref y5, .ref y6, .ref y8, .int (iI 0)]), (y1, jA E 24 (fun _ => 0)), (y2, jA E 24 (fun _ => 0)), (y3, jA E 24 (fun _ => 0)), (y4, jA E 24 (fun _ => 0)), (y5, jA E 47 (fun _ => 0)), (y6, jO 4 [.ref y7, .int (iI (-1))]), (y7, jA E 48 (fun _ => 0)), (y8, jO 3 [.ref y9, .ref y11, .ref y12, .ref y14, .int (iI 0), .int (iI 0)]), (y9, jO 4 [.ref y10, .int (iI (-1))]), (y10, jA E 48 (fun _ => 0)), (y11, jA E 48 (fun _ => 0)), (y12, jO 5 [.ref y13, .int (iI 0)]), (y13, jL E 64 (fun _ => 0)), (y14, jA E 6 (fun _ => 0))]) rfl ?_
  refine j_aload_0 106 dX6_init_105 rfl ?_
  refine j_iconst 107 dX6_init_106 ?_
  refine j_newa 109 5 rfl rfl dX6_init_107 rfl (fun h42 => ?_)
  refine j_eqM (M' := [(h0, jO 6 [.ref h1, .ref x0, .ref g0, .ref h10, .ref y0, .null, .int 0, .int 0]), (h1, jR E 2 4 (va_up (va_up (va_up (va_up (fun _ => none) 0 (some b0)) 1 (some b1)) 2 (some b2)) 3 (some b3))), (b0, jO 4 [.ref c0, .int (iI (-1))]), (c0, jA E 48 (fun _ => 0)), (b1, jO 4 [.ref c1, .int (iI (-1))]), (c1, jA E 48 (fun _ => 0)), (b2, jO 4 [.ref c2, .int (iI (-1))]), (c2, jA E 48 (fun _ => 0)), (b3, jO 4 [.ref c3, .int (iI (-1))]), (c3, jA E 48 (fun _ => 0)), (h10, jR E 3 2 (va_up (va_up (fun _ => none) 0 (some i0)) 1 (some i1))), (i0, jO 2 [.ref j0, .int (iI 0)]), (j0, jO 4 [.ref k0, .int (iI (-1))]), (k0, jA E 48 (fun _ => 0)), (i1, jO 2 [.ref j1, .int (iI 0)]), (j1, jO 4 [.ref k1, .int (iI (-1))]), (k1, jA E 48 (fun _ => 0)), (x0, jO 3 [.ref x1, .ref x3, .ref x4, .ref x6, .int (iI 0), .int (iI 0)]), (x1, jO 4 [.ref x2, .int (iI (-1))]), (x2, jA E 48 (fun _ => 0)), (x3, jA E 48 (fun _ => 0)), (x4, jO 5 [.ref x5, .int (iI 0)]), (x5, jL E 64 (fun _ => 0)), (x6, jA E 6 (fun _ => 0)), (g0, jO 1 [.ref g1, .ref g2, .int (iI 0)]), (g1, jA E 10 (fun _ => 0)), (g2, jA E 10 (fun _ => 0)), (y0, jO 0 [.ref y1, .ref y2, .ref y3, .ref y4, .ref y5, .ref y6, .ref y8, .int (iI 0)]), (y1, jA E 24 (fun _ => 0)), (y2, jA E 24 (fun _ => 0)), (y3, jA E 24 (fun _ => 0)), (y4, jA E 24 (fun _ => 0)), (y5, jA E 47 (fun _ => 0)), (y6, jO 4 [.ref y7, .int (iI (-1))]), (y7, jA E 48 (fun _ => 0)), (y8, jO 3 [.ref y9, .ref y11, .ref y12, .ref y14, .int (iI 0), .int (iI 0)]), (y9, jO 4 [.ref y10, .int (iI (-1))]), (y10, jA E 48 (fun _ => 0)), (y11, jA E 48 (fun _ => 0)), (y12, jO 5 [.ref y13, .int (iI 0)]), (y13, jL E 64 (fun _ => 0)), (y14, jA E 6 (fun _ => 0)), (h42, jA E 5 (fun _ => 0))]) rfl ?_
  refine j_putF 112 0 pf_X6_44 rfl rfl dX6_init_109 rfl ⟨rfl, rfl, rfl⟩ ?_
  refine j_eqM (M' := [(h0, jO 6 [.ref h1, .ref x0, .ref g0, .ref h10, .ref y0, .ref h42, .int 0, .int 0]), (h1, jR E 2 4 (va_up (va_up (va_up (va_up (fun _ => none) 0 (some b0)) 1 (some b1)) 2 (some b2)) 3 (some b3))), (b0, jO 4 [.ref c0, .int (iI (-1))]), (c0, jA E 48 (fun _ => 0)), (b1, jO 4 [.ref c1, .int (iI (-1))]), (c1, jA E 48 (fun _ => 0)), (b2, jO 4 [.ref c2, .int (iI (-1))]), (c2, jA E 48 (fun _ => 0)), (b3, jO 4 [.ref c3, .int (iI (-1))]), (c3, jA E 48 (fun _ => 0)), (h10, jR E 3 2 (va_up (va_up (fun _ => none) 0 (some i0)) 1 (some i1))), (i0, jO 2 [.ref j0, .int (iI 0)]), (j0, jO 4 [.ref k0, .int (iI (-1))]), (k0, jA E 48 (fun _ => 0)), (i1, jO 2 [.ref j1, .int (iI 0)]), (j1, jO 4 [.ref k1, .int (iI (-1))]), (k1, jA E 48 (fun _ => 0)), (x0, jO 3 [.ref x1, .ref x3, .ref x4, .ref x6, .int (iI 0), .int (iI 0)]), (x1, jO 4 [.ref x2, .int (iI (-1))]), (x2, jA E 48 (fun _ => 0)), (x3, jA E 48 (fun _ => 0)), (x4, jO 5 [.ref x5, .int (iI 0)]), (x5, jL E 64 (fun _ => 0)), (x6, jA E 6 (fun _ => 0)), (g0, jO 1 [.ref g1, .ref g2, .int (iI 0)]), (g1, jA E 10 (fun _ => 0)), (g2, jA E 10 (fun _ => 0)), (y0, jO 0 [.ref y1, .ref y2, .ref y3, .ref y4, .ref y5, .ref y6, .ref y8, .int (iI 0)]), (y1, jA E 24 (fun _ => 0)), (y2, jA E 24 (fun _ => 0)), (y3, jA E 24 (fun _ => 0)), (y4, jA E 24 (fun _ => 0)), (y5, jA E 47 (fun _ => 0)), (y6, jO 4 [.ref y7, .int (iI (-1))]), (y7, jA E 48 (fun _ => 0)), (y8, jO 3 [.ref y9, .ref y11, .ref y12, .ref y14, .int (iI 0), .int (iI 0)]), (y9, jO 4 [.ref y10, .int (iI (-1))]), (y10, jA E 48 (fun _ => 0)), (y11, jA E 48 (fun _ => 0)), (y12, jO 5 [.ref y13, .int (iI 0)]), (y13, jL E 64 (fun _ => 0)), (y14, jA E 6 (fun _ => 0)), (h42, jA E 5 (fun _ => 0))]) rfl ?_
  refine j_aload_0 113 dX6_init_112 rfl ?_
  refine j_iconst 114 dX6_init_113 ?_
  refine j_put 117 0 pf_X6_48 dX6_init_114 rfl ⟨rfl, rfl, rfl⟩ ?_
  refine j_eqM (M' := [(h0, jO 6 [.ref h1, .ref x0, .ref g0, .ref h10, .ref y0, .ref h42, .int (iI (0)), .int 0]), (h1, jR E 2 4 (va_up (va_up (va_up (va_up (fun _ => none) 0 (some b0)) 1 (some b1)) 2 (some b2)) 3 (some b3))), (b0, jO 4 [.ref c0, .int (iI (-1))]), (c0, jA E 48 (fun _ => 0)), (b1, jO 4 [.ref c1, .int (iI (-1))]), (c1, jA E 48 (fun _ => 0)), (b2, jO 4 [.ref c2, .int (iI (-1))]), (c2, jA E 48 (fun _ => 0)), (b3, jO 4 [.ref c3, .int (iI (-1))]), (c3, jA E 48 (fun _ => 0)), (h10, jR E 3 2 (va_up (va_up (fun _ => none) 0 (some i0)) 1 (some i1))), (i0, jO 2 [.ref j0, .int (iI 0)]), (j0, jO 4 [.ref k0, .int (iI (-1))]), (k0, jA E 48 (fun _ => 0)), (i1, jO 2 [.ref j1, .int (iI 0)]), (j1, jO 4 [.ref k1, .int (iI (-1))]), (k1, jA E 48 (fun _ => 0)), (x0, jO 3 [.ref x1, .ref x3, .ref x4, .ref x6, .int (iI 0), .int (iI 0)]), (x1, jO 4 [.ref x2, .int (iI (-1))]), (x2, jA E 48 (fun _ => 0)), (x3, jA E 48 (fun _ => 0)), (x4, jO 5 [.ref x5, .int (iI 0)]), (x5, jL E 64 (fun _ => 0)), (x6, jA E 6 (fun _ => 0)), (g0, jO 1 [.ref g1, .ref g2, .int (iI 0)]), (g1, jA E 10 (fun _ => 0)), (g2, jA E 10 (fun _ => 0)), (y0, jO 0 [.ref y1, .ref y2, .ref y3, .ref y4, .ref y5, .ref y6, .ref y8, .int (iI 0)]), (y1, jA E 24 (fun _ => 0)), (y2, jA E 24 (fun _ => 0)), (y3, jA E 24 (fun _ => 0)), (y4, jA E 24 (fun _ => 0)), (y5, jA E 47 (fun _ => 0)), (y6, jO 4 [.ref y7, .int (iI (-1))]), (y7, jA E 48 (fun _ => 0)), (y8, jO 3 [.ref y9, .ref y11, .ref y12, .ref y14, .int (iI 0), .int (iI 0)]), (y9, jO 4 [.ref y10, .int (iI (-1))]), (y10, jA E 48 (fun _ => 0)), (y11, jA E 48 (fun _ => 0)), (y12, jO 5 [.ref y13, .int (iI 0)]), (y13, jL E 64 (fun _ => 0)), (y14, jA E 6 (fun _ => 0)), (h42, jA E 5 (fun _ => 0))]) rfl ?_
  refine j_aload_0 118 dX6_init_117 rfl ?_
  refine j_iconst 119 dX6_init_118 ?_
  refine j_put 122 0 pf_X6_52 dX6_init_119 rfl ⟨rfl, rfl, rfl⟩ ?_
  refine j_eqM (M' := [(h0, jO 6 [.ref h1, .ref x0, .ref g0, .ref h10, .ref y0, .ref h42, .int (iI (0)), .int (iI (0))]), (h1, jR E 2 4 (va_up (va_up (va_up (va_up (fun _ => none) 0 (some b0)) 1 (some b1)) 2 (some b2)) 3 (some b3))), (b0, jO 4 [.ref c0, .int (iI (-1))]), (c0, jA E 48 (fun _ => 0)), (b1, jO 4 [.ref c1, .int (iI (-1))]), (c1, jA E 48 (fun _ => 0)), (b2, jO 4 [.ref c2, .int (iI (-1))]), (c2, jA E 48 (fun _ => 0)), (b3, jO 4 [.ref c3, .int (iI (-1))]), (c3, jA E 48 (fun _ => 0)), (h10, jR E 3 2 (va_up (va_up (fun _ => none) 0 (some i0)) 1 (some i1))), (i0, jO 2 [.ref j0, .int (iI 0)]), (j0, jO 4 [.ref k0, .int (iI (-1))]), (k0, jA E 48 (fun _ => 0)), (i1, jO 2 [.ref j1, .int (iI 0)]), (j1, jO 4 [.ref k1, .int (iI (-1))]), (k1, jA E 48 (fun _ => 0)), (x0, jO 3 [.ref x1, .ref x3, .ref x4, .ref x6, .int (iI 0), .int (iI 0)]), (x1, jO 4 [.ref x2, .int (iI (-1))]), (x2, jA E 48 (fun _ => 0)), (x3, jA E 48 (fun _ => 0)), (x4, jO 5 [.ref x5, .int (iI 0)]), (x5, jL E 64 (fun _ => 0)), (x6, jA E 6 (fun _ => 0)), (g0, jO 1 [.ref g1, .ref g2, .int (iI 0)]), (g1, jA E 10 (fun _ => 0)), (g2, jA E 10 (fun _ => 0)), (y0, jO 0 [.ref y1, .ref y2, .ref y3, .ref y4, .ref y5, .ref y6, .ref y8, .int (iI 0)]), (y1, jA E 24 (fun _ => 0)), (y2, jA E 24 (fun _ => 0)), (y3, jA E 24 (fun _ => 0)), (y4, jA E 24 (fun _ => 0)), (y5, jA E 47 (fun _ => 0)), (y6, jO 4 [.ref y7, .int (iI (-1))]), (y7, jA E 48 (fun _ => 0)), (y8, jO 3 [.ref y9, .ref y11, .ref y12, .ref y14, .int (iI 0), .int (iI 0)]), (y9, jO 4 [.ref y10, .int (iI (-1))]), (y10, jA E 48 (fun _ => 0)), (y11, jA E 48 (fun _ => 0)), (y12, jO 5 [.ref y13, .int (iI 0)]), (y13, jL E 64 (fun _ => 0)), (y14, jA E 6 (fun _ => 0)), (h42, jA E 5 (fun _ => 0))]) rfl ?_
  exact j_vret dX6_init_122 rfl rfl ⟨h1, b0, c0, b1, c1, b2, c2, b3, c3, h10, i0, j0, k0, i1, j1, k1, x0, x1, x2, x3, x4, x5, x6, g0, g1, g2, y0, y1, y2, y3, y4, y5, y6, y7, y8, y9, y10, y11, y12, y13, y14, h42, rfl, rfl⟩

set_option maxRecDepth 100000 in
set_option maxHeartbeats 4000000 in
theorem c_X7_init (E : jD) (m0 : Nat) : MC E Y_X7_init [.ref m0] [(m0, jO 7 [.int 0, .int 0, .int 0, .null, .null, .null, .int 0, .int 0, .null, .null, .int 0, .null, .null, .int 0, .null, .null, .null, .null, .int 0, .int 0, .null, .int 0])] (fun rr N0 => ∃ m1 m2 m3 m4 m5 m6 m7 m8 m9 m10 m11 m12, rr = none ∧ N0 = [(m0, jO 7 [.int 0, .int 0, .int 0, .ref m1, .ref m2, .ref m3, .int 0, .int 0, .ref m4, .ref m5, .int 0, .ref m6, .ref m7, .int 0, .ref m8, .ref m9, .ref m10, .ref m11, .int 0, .int 0, .ref m12, .int 0]), (m1, jA E 5 (fun _ => 0)), (m2, jA E 192 (fun _ => 0)), (m3, jA E 4 (upd (upd (upd (upd (fun _ => 0) 0 (iI (-1))) 1 (iI (-1))) 2 (iI (-1))) 3 (iI (-1)))), (m4, jA E 48 (fun _ => 0)), (m5, jA E 256 (fun _ => 0)), (m6, jA E 10 (fun _ => 0)), (m7, jA E 10 (fun _ => 0)), (m8, jA E 96 (fun _ => 0)), (m9, jA E 2 (fun _ => 0)), (m10, jA E 2 (fun _ => 0)), (m11, jA E 48 (fun _ => 0)), (m12, jA E 24 (fun _ => 0))]) := by
  refine MC.of (by decide) rfl rfl ?_
  refine j_aload_0 1 dX7_init_0 rfl ?_
  refine j_obj 4 wml_X7_1 dX7_init_1 rfl ?_
  refine j_aload_0 5 dX7_init_4 rfl ?_
  refine j_iconst 6 dX7_init_5 ?_
  refine j_newa 8 5 rfl rfl dX7_init_6 rfl (fun m1 => ?_)
  refine j_eqM (M' := [(m0, jO 7 [.int 0, .int 0, .int 0, .null, .null, .null, .int 0, .int 0, .null, .null, .int 0, .null, .null, .int 0, .null, .null, .null, .null, .int 0, .int 0, .null, .int 0]), (m1, jA E 5 (fun _ => 0))]) rfl ?_
  refine j_putF 11 0 pf_X7_7 rfl rfl dX7_init_8 rfl ⟨rfl, rfl, rfl⟩ ?_
  refine j_eqM (M' := [(m0, jO 7 [.int 0, .int 0, .int 0, .ref m1, .null, .null, .int 0, .int 0, .null, .null, .int 0, .null, .null, .int 0, .null, .null, .null, .null, .int 0, .int 0, .null, .int 0]), (m1, jA E 5 (fun _ => 0))]) rfl ?_
  refine j_aload_0 12 dX7_init_11 rfl ?_
  refine j_sipush 15 dX7_init_12 (by decide +kernel) ?_
  refine j_newa 17 192 rfl rfl dX7_init_15 rfl (fun m2 => ?_)
  refine j_eqM (M' := [(m0, jO 7 [.int 0, .int 0, .int 0, .ref m1, .null, .null, .int 0, .int 0, .null, .null, .int 0, .null, .null, .int 0, .null, .null, .null, .null, .int 0, .int 0, .null, .int 0]), (m1, jA E 5 (fun _ => 0)), (m2, jA E 192 (fun _ => 0))]) rfl ?_
  refine j_putF 20 0 pf_X7_13 rfl rfl dX7_init_17 rfl ⟨rfl, rfl, rfl⟩ ?_
  refine j_eqM (M' := [(m0, jO 7 [.int 0, .int 0, .int 0, .ref m1, .ref m2, .null, .int 0, .int 0, .null, .null, .int 0, .null, .null, .int 0, .null, .null, .null, .null, .int 0, .int 0, .null, .int 0]), (m1, jA E 5 (fun _ => 0)), (m2, jA E 192 (fun _ => 0))]) rfl ?_
  refine j_aload_0 21 dX7_init_20 rfl ?_
  refine j_iconst 22 dX7_init_21 ?_
  refine j_newa 24 4 rfl rfl dX7_init_22 rfl (fun m3 => ?_)
  refine j_eqM (M' := [(m0, jO 7 [.int 0, .int 0, .int 0, .ref m1, .ref m2, .null, .int 0, .int 0, .null, .null, .int 0, .null, .null, .int 0, .null, .null, .null, .null, .int 0, .int 0, .null, .int 0]), (m1, jA E 5 (fun _ => 0)), (m2, jA E 192 (fun _ => 0)), (m3, jA E 4 (fun _ => 0))]) rfl ?_
  refine j_putF 27 0 pf_X7_16 rfl rfl dX7_init_24 rfl ⟨rfl, rfl, rfl⟩ ?_
  refine j_eqM (M' := [(m0, jO 7 [.int 0, .int 0, .int 0, .ref m1, .ref m2, .ref m3, .int 0, .int 0, .null, .null, .int 0, .null, .null, .int 0, .null, .null, .null, .null, .int 0, .int 0, .null, .int 0]), (m1, jA E 5 (fun _ => 0)), (m2, jA E 192 (fun _ => 0)), (m3, jA E 4 (fun _ => 0))]) rfl ?_
  refine j_aload_0 28 dX7_init_27 rfl ?_
  refine j_bipush 30 dX7_init_28 (by decide +kernel) ?_
  refine j_newa 32 48 rfl rfl dX7_init_30 rfl (fun m4 => ?_)
  refine j_eqM (M' := [(m0, jO 7 [.int 0, .int 0, .int 0, .ref m1, .ref m2, .ref m3, .int 0, .int 0, .null, .null, .int 0, .null, .null, .int 0, .null, .null, .null, .null, .int 0, .int 0, .null, .int 0]), (m1, jA E 5 (fun _ => 0)), (m2, jA E 192 (fun _ => 0)), (m3, jA E 4 (fun _ => 0)), (m4, jA E 48 (fun _ => 0))]) rfl ?_
  refine j_putF 35 0 pf_X7_19 rfl rfl dX7_init_32 rfl ⟨rfl, rfl, rfl⟩ ?_
  refine j_eqM (M' := [(m0, jO 7 [.int 0, .int 0, .int 0, .ref m1, .ref m2, .ref m3, .int 0, .int 0, .ref m4, .null, .int 0, .null, .null, .int 0, .null, .null, .null, .null, .int 0, .int 0, .null, .int 0]), (m1, jA E 5 (fun _ => 0)), (m2, jA E 192 (fun _ => 0)), (m3, jA E 4 (fun _ => 0)), (m4, jA E 48 (fun _ => 0))]) rfl ?_
  refine j_aload_0 36 dX7_init_35 rfl ?_
  refine j_sipush 39 dX7_init_36 (by decide +kernel) ?_
  refine j_newa 41 256 rfl rfl dX7_init_39 rfl (fun m5 => ?_)
  refine j_eqM (M' := [(m0, jO 7 [.int 0, .int 0, .int 0, .ref m1, .ref m2, .ref m3, .int 0, .int 0, .ref m4, .null, .int 0, .null, .null, .int 0, .null, .null, .null, .null, .int 0, .int 0, .null, .int 0]), (m1, jA E 5 (fun _ => 0)), (m2, jA E 192 (fun _ => 0)), (m3, jA E 4 (fun _ => 0)), (m4, jA E 48 (fun _ => 0)), (m5, jA E 256 (fun _ => 0))]) rfl ?_
  refine j_putF 44 0 pf_X7_22 rfl rfl dX7_init_41 rfl ⟨rfl, rfl, rfl⟩ ?_
  refine j_eqM (M' := [(m0, jO 7 [.int 0, .int 0, .int 0, .ref m1, .ref m2, .ref m3, .int 0, .int 0, .ref m4, .ref m5, .int 0, .null, .null, .int 0, .null, .null, .null, .null, .int 0, .int 0, .null, .int 0]), (m1, jA E 5 (fun _ => 0)), (m2, jA E 192 (fun _ => 0)), (m3, jA E 4 (fun _ => 0)), (m4, jA E 48 (fun _ => 0)), (m5, jA E 256 (fun _ => 0))]) rfl ?_
  refine j_aload_0 45 dX7_init_44 rfl ?_
  refine j_bipush 47 dX7_init_45 (by decide +kernel) ?_
  refine j_newa 49 10 rfl rfl dX7_init_47 rfl (fun m6 => ?_)
  refine j_eqM (M' := [(m0, jO 7 [.int 0, .int 0, .int 0, .ref m1, .ref m2, .ref m3, .int 0, .int 0, .ref m4, .ref m5, .int 0, .null, .null, .int 0, .null, .null, .null, .null, .int 0, .int 0, .null, .int 0]), (m1, jA E 5 (fun _ => 0)), (m2, jA E 192 (fun _ => 0)), (m3, jA E 4 (fun _ => 0)), (m4, jA E 48 (fun _ => 0)), (m5, jA E 256 (fun _ => 0)), (m6, jA E 10 (fun _ => 0))]) rfl ?_
  refine j_putF 52 0 pf_X7_25 rfl rfl dX7_init_49 rfl ⟨rfl, rfl, rfl⟩ ?_
  refine j_eqM (M' := [(m0, jO 7 [.int 0, .int 0, .int 0, .ref m1, .ref m2, .ref m3, .int 0, .int 0, .ref m4, .ref m5, .int 0, .ref m6, .null, .int 0, .null, .null, .null, .null, .int 0, .int 0, .null, .int 0]), (m1, jA E 5 (fun _ => 0)), (m2, jA E 192 (fun _ => 0)), (m3, jA E 4 (fun _ => 0)), (m4, jA E 48 (fun _ => 0)), (m5, jA E 256 (fun _ => 0)), (m6, jA E 10 (fun _ => 0))]) rfl ?_
  refine j_aload_0 53 dX7_init_52 rfl ?_
  refine j_bipush 55 dX7_init_53 (by decide +kernel) ?_
  refine j_newa 57 10 rfl rfl dX7_init_55 rfl (fun m7 => ?_)
  refine j_eqM (M' := [(m0, jO 7 [.int 0, .int 0, .int 0, .ref m1, .ref m2, .ref m3, .int 0, .int 0, .ref m4, .ref m5, .int 0, .ref m6, .null, .int 0, .null, .null, .null, .null, .int 0, .int 0, .null, .int 0]), (m1, jA E 5 (fun _ => 0)), (m2, jA E 192 (fun _ => 0)), (m3, jA E 4 (fun _ => 0)), (m4, jA E 48 (fun _ => 0)), (m5, jA E 256 (fun _ => 0)), (m6, jA E 10 (fun _ => 0)), (m7, jA E 10 (fun _ => 0))]) rfl ?_
  refine j_putF 60 0 pf_X7_28 rfl rfl dX7_init_57 rfl ⟨rfl, rfl, rfl⟩ ?_
  refine j_eqM (M' := [(m0, jO 7 [.int 0, .int 0, .int 0, .ref m1, .ref m2, .ref m3, .int 0, .int 0, .ref m4, .ref m5, .int 0, .ref m6, .ref m7, .int 0, .null, .null, .null, .null, .int 0, .int 0, .null, .int 0]), (m1, jA E 5 (fun _ => 0)), (m2, jA E 192 (fun _ => 0)), (m3, jA E 4 (fun _ => 0)), (m4, jA E 48 (fun _ => 0)), (m5, jA E 256 (fun _ => 0)), (m6, jA E 10 (fun _ => 0)), (m7, jA E 10 (fun _ => 0))]) rfl ?_
  refine j_aload_0 61 dX7_init_60 rfl ?_
  refine j_bipush 63 dX7_init_61 (by decide +kernel) ?_
  refine j_newa 65 96 rfl rfl dX7_init_63 rfl (fun m8 => ?_)
  refine j_eqM (M' := [(m0, jO 7 [.int 0, .int 0, .int 0, .ref m1, .ref m2, .ref m3, .int 0, .int 0, .ref m4, .ref m5, .int 0, .ref m6, .ref m7, .int 0, .null, .null, .null, .null, .int 0, .int 0, .null, .int 0]), (m1, jA E 5 (fun _ => 0)), (m2, jA E 192 (fun _ => 0)), (m3, jA E 4 (fun _ => 0)), (m4, jA E 48 (fun _ => 0)), (m5, jA E 256 (fun _ => 0)), (m6, jA E 10 (fun _ => 0)), (m7, jA E 10 (fun _ => 0)), (m8, jA E 96 (fun _ => 0))]) rfl ?_
  refine j_putF 68 0 pf_X7_31 rfl rfl dX7_init_65 rfl ⟨rfl, rfl, rfl⟩ ?_
  refine j_eqM (M' := [(m0, jO 7 [.int 0, .int 0, .int 0, .ref m1, .ref m2, .ref m3, .int 0, .int 0, .ref m4, .ref m5, .int 0, .ref m6, .ref m7, .int 0, .ref m8, .null, .null, .null, .int 0, .int 0, .null, .int 0]), (m1, jA E 5 (fun _ => 0)), (m2, jA E 192 (fun _ => 0)), (m3, jA E 4 (fun _ => 0)), (m4, jA E 48 (fun _ => 0)), (m5, jA E 256 (fun _ => 0)), (m6, jA E 10 (fun _ => 0)), (m7, jA E 10 (fun _ => 0)), (m8, jA E 96 (fun _ => 0))]) rfl ?_
  refine j_aload_0 69 dX7_init_68 rfl ?_
  refine j_iconst 70 dX7_init_69 ?_
  refine j_newa 72 2 rfl rfl dX7_init_70 rfl (fun m9 => ?_)
  refine j_eqM (M' := [(m0, jO 7 [.int 0, .int 0, .int 0, .ref m1, .ref m2, .ref m3, .int 0, .int 0, .ref m4, .ref m5, .int 0, .ref m6, .ref m7, .int 0, .ref m8, .null, .null, .null, .int 0, .int 0, .null, .int 0]), (m1, jA E 5 (fun _ => 0)), (m2, jA E 192 (fun _ => 0)), (m3, jA E 4 (fun _ => 0)), (m4, jA E 48 (fun _ => 0)), (m5, jA E 256 (fun _ => 0)), (m6, jA E 10 (fun _ => 0)), (m7, jA E 10 (fun _ => 0)), (m8, jA E 96 (fun _ => 0)), (m9, jA E 2 (fun _ => 0))]) rfl ?_
  refine j_putF 75 0 pf_X7_34 rfl rfl dX7_init_72 rfl ⟨rfl, rfl, rfl⟩ ?_
  refine j_eqM (M' := [(m0, jO 7 [.int 0, .int 0, .int 0, .ref m1, .ref m2, .ref m3, .int 0, .int 0, .ref m4, .ref m5, .int 0, .ref m6, .ref m7, .int 0, .ref m8, .ref m9, .null, .null, .int 0, .int 0, .null, .int 0]), (m1, jA E 5 (fun _ => 0)), (m2, jA E 192 (fun _ => 0)), (m3, jA E 4 (fun _ => 0)), (m4, jA E 48 (fun _ => 0)), (m5, jA E 256 (fun _ => 0)), (m6, jA E 10 (fun _ => 0)), (m7, jA E 10 (fun _ => 0)), (m8, jA E 96 (fun _ => 0)), (m9, jA E 2 (fun _ => 0))]) rfl ?_
  refine j_aload_0 76 dX7_init_75 rfl ?_
  refine j_iconst 77 dX7_init_76 ?_
  refine j_newa 79 2 rfl rfl dX7_init_77 rfl (fun m10 => ?_)
  refine j_eqM (M' := [(m0, jO 7 [.int 0, .int 0, .int 0, .ref m1, .ref m2, .ref m3, .int 0, .int 0, .ref m4, .ref m5, .int 0, .ref m6, .ref m7, .int 0, .ref m8, .ref m9, .null, .null, .int 0, .int 0, .null, .int 0]), (m1, jA E 5 (fun _ => 0)), (m2, jA E 192 (fun _ => 0)), (m3, jA E 4 (fun _ => 0)), (m4, jA E 48 (fun _ => 0)), (m5, jA E 256 (fun _ => 0)), (m6, jA E 10 (fun _ => 0)), (m7, jA E 10 (fun _ => 0)), (m8, jA E 96 (fun _ => 0)), (m9, jA E 2 (fun _ => 0)), (m10, jA E 2 (fun _ => 0))]) rfl ?_
  refine j_putF 82 0 pf_X7_37 rfl rfl dX7_init_79 rfl ⟨rfl, rfl, rfl⟩ ?_
  refine j_eqM (M' := [(m0, jO 7 [.int 0, .int 0, .int 0, .ref m1, .ref m2, .ref m3, .int 0, .int 0, .ref m4, .ref m5, .int 0, .ref m6, .ref m7, .int 0, .ref m8, .ref m9, .ref m10, .null, .int 0, .int 0, .null, .int 0]), (m1, jA E 5 (fun _ => 0)), (m2, jA E 192 (fun _ => 0)), (m3, jA E 4 (fun _ => 0)), (m4, jA E 48 (fun _ => 0)), (m5, jA E 256 (fun _ => 0)), (m6, jA E 10 (fun _ => 0)), (m7, jA E 10 (fun _ => 0)), (m8, jA E 96 (fun _ => 0)), (m9, jA E 2 (fun _ => 0)), (m10, jA E 2 (fun _ => 0))]) rfl ?_
  refine j_aload_0 83 dX7_init_82 rfl ?_
  refine j_bipush 85 dX7_init_83 (by decide +kernel) ?_
  refine j_newa 87 48 rfl rfl dX7_init_85 rfl (fun m11 => ?_)
  refine j_eqM (M' := [(m0, jO 7 [.int 0, .int 0, .int 0, .ref m1, .ref m2, .ref m3, .int 0, .int 0, .ref m4, .ref m5, .int 0, .ref m6, .ref m7, .int 0, .ref m8, .ref m9, .ref m10, .null, .int 0, .int 0, .null, .int 0]), (m1, jA E 5 (fun _ => 0)), (m2, jA E 192 (fun _ => 0)), (m3, jA E 4 (fun _ => 0)), (m4, jA E 48 (fun _ => 0)), (m5, jA E 256 (fun _ => 0)), (m6, jA E 10 (fun _ => 0)), (m7, jA E 10 (fun _ => 0)), (m8, jA E 96 (fun _ => 0)), (m9, jA E 2 (fun _ => 0)), (m10, jA E 2 (fun _ => 0)), (m11, jA E 48 (fun _ => 0))]) rfl ?_
  refine j_putF 90 0 pf_X7_40 rfl rfl dX7_init_87 rfl ⟨rfl, rfl, rfl⟩ ?_
  refine j_eqM (M' := [(m0, jO 7 [.int 0, .int 0, .int 0, .ref m1, .ref m2, .ref m3, .int 0, .int 0, .ref m4, .ref m5, .int 0, .ref m6, .ref m7, .int 0, .ref m8, .ref m9, .ref m10, .ref m11, .int 0, .int 0, .null, .int 0]), (m1, jA E 5 (fun _ => 0)), (m2, jA E 192 (fun _ => 0)), (m3, jA E 4 (fun _ => 0)), (m4, jA E 48 (fun _ => 0)), (m5, jA E 256 (fun _ => 0)), (m6, jA E 10 (fun _ => 0)), (m7, jA E 10 (fun _ => 0)), (m8, jA E 96 (fun _ => 0)), (m9, jA E 2 (fun _ => 0)), (m10, jA E 2 (fun _ => 0)), (m11, jA E 48 (fun _ => 0))]) rfl ?_
  refine j_aload_0 91 dX7_init_90 rfl ?_
  refine j_bipush 93 dX7_init_91 (by decide +kernel) ?_
  refine j_newa 95 24 rfl rfl dX7_init_93 rfl (fun m12 => ?_)
  refine j_eqM (M' := [(m0, jO 7 [.int 0, .int 0, .int 0, .ref m1, .ref m2, .ref m3, .int 0, .int 0, .ref m4, .ref m5, .int 0, .ref m6, .ref m7, .int 0, .ref m8, .ref m9, .ref m10, .ref m11, .int 0, .int 0, .null, .int 0]), (m1, jA E 5 (fun _ => 0)), (m2, jA E 192 (fun _ => 0)), (m3, jA E 4 (fun _ => 0)), (m4, jA E 48 (fun _ => 0)), (m5, jA E 256 (fun _ => 0)), (m6, jA E 10 (fun _ => 0)), (m7, jA E 10 (fun _ => 0)), (m8, jA E 96 (fun _ => 0)), (m9, jA E 2 (fun _ => 0)), (m10, jA E 2 (fun _ => 0)), (m11, jA E 48 (fun _ => 0)), (m12, jA E 24 (fun _ => 0))]) rfl ?_
  refine j_putF 98 0 pf_X7_43 rfl rfl dX7_init_95 rfl ⟨rfl, rfl, rfl⟩ ?_
  refine j_eqM (M' := [(m0, jO 7 [.int 0, .int 0, .int 0, .ref m1, .ref m2, .ref m3, .int 0, .int 0, .ref m4, .ref m5, .int 0, .ref m6, .ref m7, .int 0, .ref m8, .ref m9, .ref m10, .ref m11, .int 0, .int 0, .ref m12, .int 0]), (m1, jA E 5 (fun _ => 0)), (m2, jA E 192 (fun _ => 0)), (m3, jA E 4 (fun _ => 0)), (m4, jA E 48 (fun _ => 0)), (m5, jA E 256 (fun _ => 0)), (m6, jA E 10 (fun _ => 0)), (m7, jA E 10 (fun _ => 0)), (m8, jA E 96 (fun _ => 0)), (m9, jA E 2 (fun _ => 0)), (m10, jA E 2 (fun _ => 0)), (m11, jA E 48 (fun _ => 0)), (m12, jA E 24 (fun _ => 0))]) rfl ?_
  refine j_iconst 99 dX7_init_98 ?_
  refine j_istore_1 100 (lv' := [(0, _), (1, _)]) dX7_init_99 rfl ⟨rfl, rfl⟩ ?_
  refine j_iload_1 101 dX7_init_100 rfl ?_
  refine j_iconst 102 dX7_init_101 ?_
  refine j_icmp_ge 118 105 dX7_init_102 ⟨by omega, by omega⟩ ⟨by omega, by omega⟩ (fun h => absurd h (by omega)) (fun h => ?_)
  refine j_aload_0 106 dX7_init_105 rfl ?_
  refine j_get 109 0 gf_X7_16 dX7_init_106 rfl rfl ?_
  refine j_iload_1 110 dX7_init_109 rfl ?_
  refine j_iconst 111 dX7_init_110 ?_
  refine j_iast 112 3 0 dX7_init_111 rfl rfl rfl (by decide) ?_
  refine j_eqM (M' := [(m0, jO 7 [.int 0, .int 0, .int 0, .ref m1, .ref m2, .ref m3, .int 0, .int 0, .ref m4, .ref m5, .int 0, .ref m6, .ref m7, .int 0, .ref m8, .ref m9, .ref m10, .ref m11, .int 0, .int 0, .ref m12, .int 0]), (m1, jA E 5 (fun _ => 0)), (m2, jA E 192 (fun _ => 0)), (m3, jA E 4 (upd (fun _ => 0) 0 (iI (-1)))), (m4, jA E 48 (fun _ => 0)), (m5, jA E 256 (fun _ => 0)), (m6, jA E 10 (fun _ => 0)), (m7, jA E 10 (fun _ => 0)), (m8, jA E 96 (fun _ => 0)), (m9, jA E 2 (fun _ => 0)), (m10, jA E 2 (fun _ => 0)), (m11, jA E 48 (fun _ => 0)), (m12, jA E 24 (fun _ => 0))]) rfl ?_
  refine j_iinc 115 (lv' := [(0, .ref m0), (1, .int (iI 1))]) dX7_init_112 rfl rfl ⟨rfl, rfl⟩ ?_
  refine j_goto 100 dX7_init_115 ?_
  refine j_iload_1 101 dX7_init_100 rfl ?_
  refine j_iconst 102 dX7_init_101 ?_
  refine j_icmp_ge 118 105 dX7_init_102 ⟨by omega, by omega⟩ ⟨by omega, by omega⟩ (fun h => absurd h (by omega)) (fun h => ?_)
  refine j_aload_0 106 dX7_init_105 rfl ?_
  refine j_get 109 0 gf_X7_16 dX7_init_106 rfl rfl ?_
  refine j_iload_1 110 dX7_init_109 rfl ?_
  refine j_iconst 111 dX7_init_110 ?_
  refine j_iast 112 3 1 dX7_init_111 rfl rfl rfl (by decide) ?_
  refine j_eqM (M' := [(m0, jO 7 [.int 0, .int 0, .int 0, .ref m1, .ref m2, .ref m3, .int 0, .int 0, .ref m4, .ref m5, .int 0, .ref m6, .ref m7, .int 0, .ref m8, .ref m9, .ref m10, .ref m11, .int 0, .int 0, .ref m12, .int 0]), (m1, jA E 5 (fun _ => 0)), (m2, jA E 192 (fun _ => 0)), (m3, jA E 4 (upd (upd (fun _ => 0) 0 (iI (-1))) 1 (iI (-1)))), (m4, jA E 48 (fun _ => 0)), (m5, jA E 256 (fun _ => 0)), (m6, jA E 10 (fun _ => 0)), (m7, jA E 10 (fun _ => 0)), (m8, jA E 96 (fun _ => 0)), (m9, jA E 2 (fun _ => 0)), (m10, jA E 2 (fun _ => 0)), (m11, jA E 48 (fun _ => 0)), (m12, jA E 24 (fun _ => 0))]) rfl ?_
  refine j_iinc 115 (lv' := [(0, .ref m0), (1, .int (iI 2))]) dX7_init_112 rfl rfl ⟨rfl, rfl⟩ ?_
  refine j_goto 100 dX7_init_115 ?_
  refine j_iload_1 101 dX7_init_100 rfl ?_
  refine j_iconst 102 dX7_init_101 ?_
  refine j_icmp_ge 118 105 dX7_init_102 ⟨by omega, by omega⟩ ⟨by omega, by omega⟩ (fun h => absurd h (by omega)) (fun h => ?_)
  refine j_aload_0 106 dX7_init_105 rfl ?_
  refine j_get 109 0 gf_X7_16 dX7_init_106 rfl rfl ?_
  refine j_iload_1 110 dX7_init_109 rfl ?_
  refine j_iconst 111 dX7_init_110 ?_
  refine j_iast 112 3 2 dX7_init_111 rfl rfl rfl (by decide) ?_
  refine j_eqM (M' := [(m0, jO 7 [.int 0, .int 0, .int 0, .ref m1, .ref m2, .ref m3, .int 0, .int 0, .ref m4, .ref m5, .int 0, .ref m6, .ref m7, .int 0, .ref m8, .ref m9, .ref m10, .ref m11, .int 0, .int 0, .ref m12, .int 0]), (m1, jA E 5 (fun _ => 0)), (m2, jA E 192 (fun _ => 0)), (m3, jA E 4 (upd (upd (upd (fun _ => 0) 0 (iI (-1))) 1 (iI (-1))) 2 (iI (-1)))), (m4, jA E 48 (fun _ => 0)), (m5, jA E 256 (fun _ => 0)), (m6, jA E 10 (fun _ => 0)), (m7, jA E 10 (fun _ => 0)), (m8, jA E 96 (fun _ => 0)), (m9, jA E 2 (fun _ => 0)), (m10, jA E 2 (fun _ => 0)), (m11, jA E 48 (fun _ => 0)), (m12, jA E 24 (fun _ => 0))]) rfl ?_
  refine j_iinc 115 (lv' := [(0, .ref m0), (1, .int (iI 3))]) dX7_init_112 rfl rfl ⟨rfl, rfl⟩ ?_
  refine j_goto 100 dX7_init_115 ?_
  refine j_iload_1 101 dX7_init_100 rfl ?_
  refine j_iconst 102 dX7_init_101 ?_
  refine j_icmp_ge 118 105 dX7_init_102 ⟨by omega, by omega⟩ ⟨by omega, by omega⟩ (fun h => absurd h (by omega)) (fun h => ?_)
  refine j_aload_0 106 dX7_init_105 rfl ?_
  refine j_get 109 0 gf_X7_16 dX7_init_106 rfl rfl ?_
  refine j_iload_1 110 dX7_init_109 rfl ?_
  refine j_iconst 111 dX7_init_110 ?_
  refine j_iast 112 3 3 dX7_init_111 rfl rfl rfl (by decide) ?_
  refine j_eqM (M' := [(m0, jO 7 [.int 0, .int 0, .int 0, .ref m1, .ref m2, .ref m3, .int 0, .int 0, .ref m4, .ref m5, .int 0, .ref m6, .ref m7, .int 0, .ref m8, .ref m9, .ref m10, .ref m11, .int 0, .int 0, .ref m12, .int 0]), (m1, jA E 5 (fun _ => 0)), (m2, jA E 192 (fun _ => 0)), (m3, jA E 4 (upd (upd (upd (upd (fun _ => 0) 0 (iI (-1))) 1 (iI (-1))) 2 (iI (-1))) 3 (iI (-1)))), (m4, jA E 48 (fun _ => 0)), (m5, jA E 256 (fun _ => 0)), (m6, jA E 10 (fun _ => 0)), (m7, jA E 10 (fun _ => 0)), (m8, jA E 96 (fun _ => 0)), (m9, jA E 2 (fun _ => 0)), (m10, jA E 2 (fun _ => 0)), (m11, jA E 48 (fun _ => 0)), (m12, jA E 24 (fun _ => 0))]) rfl ?_
  refine j_iinc 115 (lv' := [(0, .ref m0), (1, .int (iI 4))]) dX7_init_112 rfl rfl ⟨rfl, rfl⟩ ?_
  refine j_goto 100 dX7_init_115 ?_
  refine j_iload_1 101 dX7_init_100 rfl ?_
  refine j_iconst 102 dX7_init_101 ?_
  refine j_icmp_ge 118 105 dX7_init_102 ⟨by omega, by omega⟩ ⟨by omega, by omega⟩ (fun h => ?_) (fun h => absurd h (by omega))
  exact j_vret dX7_init_118 rfl rfl ⟨m1, m2, m3, m4, m5, m6, m7, m8, m9, m10, m11, m12, rfl, rfl⟩
