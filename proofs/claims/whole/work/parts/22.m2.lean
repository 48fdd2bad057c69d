def f_M_lengthSquare (N : Nat → Int → Int) (a b : Int) : Int := (f_M_square ((N 0 b) - (N 0 a))) + (f_M_square ((N 1 b) - (N 1 a)))
theorem br_M_lengthSquare (N : Nat → Int → Int) (a b : Int) (hI : jN N) (_ : zB 0 59 a) (_ : zB 0 59 b) : zB 0 1800000000 (f_M_lengthSquare N a b) := zB.w (zb_add (zb_sq (A := 30000) (zB.w (zb_sub (jN_a0 hI b) (jN_a0 hI a)) (by decide) (by decide))) (zb_sq (A := 30000) (zB.w (zb_sub (jN_a1 hI b) (jN_a1 hI a)) (by decide) (by decide)))) (by decide) (by decide)
set_option maxHeartbeats 4000000 in
set_option maxRecDepth 100000 in
theorem k_M_lengthSquare (l : Launch) (dC : Nat → ClassId) (dI : Nat → Nat → Nat) (ad : Nat → Nat) (cI : ClassId) (N : Nat → Int → Int) (k0 k1 k2 k3 : Int) (hI : jN N) (a b : Int) (hb_a : zB 0 59 a) (hb_b : zB 0 59 b) : Met l y_M_lengthSquare (Cond.code y_M_lengthSquare c_M_lengthSquare 3 (some .long) :: zT) { frames := 1, cells := 0, slots := 0, locals := 21 } (va_Pc ([.ref (ad 0), .int (zi a), .int (zi b)] : List Value) (zWM dC dI ad cI N k0 k1 k2 k3)) (zR (.long (zl (f_M_lengthSquare N a b)))) 0 0 (fun _ => False) := by
  refine zh (cc := c_M_lengthSquare) (C := R_M) (by decide) rfl rfl (Nat.le_of_ble_eq_true rfl) ?_
  intro p e s m below meth c ls hx hb hr hlocks hml hown hname hts hl hB
  have hw : ∀ w9 ∈ zT, w9.before ([.ref (ad 0), .int (zi a), .int (zi b)] : List Value).toArray s = true := fun w9 h => hts w9 (List.mem_cons_of_mem _ h)
  obtain ⟨hP, hK⟩ := hB
  obtain ⟨hn0, hn1⟩ := id (jN_s0 hI)
  obtain ⟨hz0, hz1⟩ := id (jN_s1 hI)
  obtain ⟨hl_a, hh_a⟩ := id hb_a
  obtain ⟨hl_b, hh_b⟩ := id hb_b
  generalize hq : f_M_lengthSquare N a b = r
  unfold f_M_lengthSquare at hq
  replace hl : lv_has ls 3 [(0, .ref (ad 0)), (1, .int (zi a)), (2, .int (zi b))] := hl
  refine lv_aload_n hx hb d_M_lengthSquare_0 rfl (lv_at hl 0 rfl) ?_
  refine va_get (D := (dC, dI)) (ci := 2) (v := .ref (ad 1)) (C := R_M) (T := T_M) (N := 17) hx hb hw i_M hown hK hP 0 rfl rfl 1 (by decide) (hw _ m_227) (fun _ h9 => h9) rfl d_M_lengthSquare_1 ?_
  refine lv_iload_n hx hb d_M_lengthSquare_4 rfl (lv_at hl 2 rfl) ?_
  refine zr_iald hx hb hK hP 1 0 (cA := cI) (n := 60) (g := N 0) rfl rfl (i := b) (by omega) (by omega) (by decide) d_M_lengthSquare_5 ?_
  refine lv_aload_n hx hb d_M_lengthSquare_6 rfl (lv_at hl 0 rfl) ?_
  refine va_get (D := (dC, dI)) (ci := 2) (v := .ref (ad 1)) (C := R_M) (T := T_M) (N := 17) hx hb hw i_M hown hK hP 0 rfl rfl 1 (by decide) (hw _ m_227) (fun _ h9 => h9) rfl d_M_lengthSquare_7 ?_
  refine lv_iload_n hx hb d_M_lengthSquare_10 rfl (lv_at hl 1 rfl) ?_
  refine zr_iald hx hb hK hP 1 0 (cA := cI) (n := 60) (g := N 0) rfl rfl (i := a) (by omega) (by omega) (by decide) d_M_lengthSquare_11 ?_
  have b_1 : zB (-30000) 30000 ((N 0 b) - (N 0 a)) := zB.w (zb_sub (jN_a0 hI b) (jN_a0 hI a)) (by decide) (by decide)
  refine zr_isub hx hb d_M_lengthSquare_12 ?_
  refine zr_i2l hx hb (zB.I b_1 (by decide) (by decide)) d_M_lengthSquare_13 ?_
  refine zc_n (va_runS (As := [.long (zl ((N 0 b) - (N 0 a)))]) (rest := []) ⟨hx, hb, hml, hown, hts⟩ (k_M_square l ((N 0 b) - (N 0 a)) (zB.w b_1 (by decide) (by decide)) ) (zcS 1 hts m_257 m_3 m_255 m_256 rfl rfl q_M_square ⟨Nat.le_of_ble_eq_true rfl, Nat.le_of_ble_eq_true rfl⟩) (zp0 [.long (zl ((N 0 b) - (N 0 a)))]) rfl rfl hl.1 rfl (lv_room (Nat.le_of_ble_eq_true rfl)) d_M_lengthSquare_14 ⟨Nat.zero_le _, Nat.zero_le _⟩) ?_
  have b_2 : zB 0 900000000 (f_M_square ((N 0 b) - (N 0 a))) := zB.w (zb_sq (A := 30000) (zB.w b_1 (by decide) (by decide))) (by decide) (by decide)
  refine lv_aload_n hx hb d_M_lengthSquare_17 rfl (lv_at hl 0 rfl) ?_
  refine va_get (D := (dC, dI)) (ci := 2) (v := .ref (ad 2)) (C := R_M) (T := T_M) (N := 17) hx hb hw i_M hown hK hP 0 rfl rfl 2 (by decide) (hw _ m_228) (fun _ h9 => h9) rfl d_M_lengthSquare_18 ?_
  refine lv_iload_n hx hb d_M_lengthSquare_21 rfl (lv_at hl 2 rfl) ?_
  refine zr_iald hx hb hK hP 2 0 (cA := cI) (n := 60) (g := N 1) rfl rfl (i := b) (by omega) (by omega) (by decide) d_M_lengthSquare_22 ?_
  refine lv_aload_n hx hb d_M_lengthSquare_23 rfl (lv_at hl 0 rfl) ?_
  refine va_get (D := (dC, dI)) (ci := 2) (v := .ref (ad 2)) (C := R_M) (T := T_M) (N := 17) hx hb hw i_M hown hK hP 0 rfl rfl 2 (by decide) (hw _ m_228) (fun _ h9 => h9) rfl d_M_lengthSquare_24 ?_
  refine lv_iload_n hx hb d_M_lengthSquare_27 rfl (lv_at hl 1 rfl) ?_
  refine zr_iald hx hb hK hP 2 0 (cA := cI) (n := 60) (g := N 1) rfl rfl (i := a) (by omega) (by omega) (by decide) d_M_lengthSquare_28 ?_
  have b_3 : zB (-30000) 30000 ((N 1 b) - (N 1 a)) := zB.w (zb_sub (jN_a1 hI b) (jN_a1 hI a)) (by decide) (by decide)
  refine zr_isub hx hb d_M_lengthSquare_29 ?_
  refine zr_i2l hx hb (zB.I b_3 (by decide) (by decide)) d_M_lengthSquare_30 ?_
  refine zc_n (va_runS (As := [.long (zl ((N 1 b) - (N 1 a)))]) (rest := [.long (zl (f_M_square ((N 0 b) - (N 0 a))))]) ⟨hx, hb, hml, hown, hts⟩ (k_M_square l ((N 1 b) - (N 1 a)) (zB.w b_3 (by decide) (by decide)) ) (zcS 1 hts m_257 m_3 m_255 m_256 rfl rfl q_M_square ⟨Nat.le_of_ble_eq_true rfl, Nat.le_of_ble_eq_true rfl⟩) (zp0 [.long (zl ((N 1 b) - (N 1 a)))]) rfl rfl hl.1 rfl (lv_room (Nat.le_of_ble_eq_true rfl)) d_M_lengthSquare_31 ⟨Nat.zero_le _, Nat.zero_le _⟩) ?_
  have b_4 : zB 0 900000000 (f_M_square ((N 1 b) - (N 1 a))) := zB.w (zb_sq (A := 30000) (zB.w b_3 (by decide) (by decide))) (by decide) (by decide)
  have b_5 : zB 0 1800000000 ((f_M_square ((N 0 b) - (N 0 a))) + (f_M_square ((N 1 b) - (N 1 a)))) := zB.w (zb_add b_2 b_4) (by decide) (by decide)
  refine zr_ladd hx hb d_M_lengthSquare_34 ?_
  exact ze_l hx hb hr hlocks hq d_M_lengthSquare_35
def f_M_isAbove (N : Nat → Int → Int) (a b d : Int) : Int := if ((N 3 b) - (N 3 a)) < 0 then (if ((((-((N 3 b) - (N 3 a))) - (-((N 3 d) - (N 3 a)))) * ((N 2 a) + (N 7 2))) + ((-((N 3 d) - (N 3 a))) * ((N 2 b) + (N 7 3)))) < ((N 2 d) * (-((N 3 b) - (N 3 a)))) then (1) else (0)) else (if (((((N 3 b) - (N 3 a)) - ((N 3 d) - (N 3 a))) * ((N 2 a) + (N 7 2))) + (((N 3 d) - (N 3 a)) * ((N 2 b) + (N 7 3)))) < ((N 2 d) * ((N 3 b) - (N 3 a))) then (1) else (0))
theorem bb_M_isAbove (N : Nat → Int → Int) (a b d : Int) : zB 0 1 (f_M_isAbove N a b d) := by
  unfold f_M_isAbove
  repeat' split
  all_goals first | exact ⟨by decide, by decide⟩  | apply bb_M_within
set_option maxHeartbeats 4000000 in
set_option maxRecDepth 100000 in
theorem k_M_isAbove (l : Launch) (dC : Nat → ClassId) (dI : Nat → Nat → Nat) (ad : Nat → Nat) (cI : ClassId) (N : Nat → Int → Int) (k0 k1 k2 k3 : Int) (hI : jN N) (a b d : Int) (hb_a : zB 0 59 a) (hb_b : zB 0 59 b) (hb_d : zB 0 59 d) : Met l y_M_isAbove (Cond.code y_M_isAbove c_M_isAbove 8 (some .boolean) :: zT) { frames := 0, cells := 0, slots := 0, locals := 0 } (va_Pc ([.ref (ad 0), .int (zi a), .int (zi b), .int (zi d)] : List Value) (zWM dC dI ad cI N k0 k1 k2 k3)) (zR (.int (zi (f_M_isAbove N a b d)))) 0 0 (fun _ => False) := by
  refine zh (cc := c_M_isAbove) (C := R_M) (by decide) rfl rfl (Nat.le_of_ble_eq_true rfl) ?_
  intro p e s m below meth c ls hx hb hr hlocks hml hown hname hts hl hB
  have hw : ∀ w9 ∈ zT, w9.before ([.ref (ad 0), .int (zi a), .int (zi b), .int (zi d)] : List Value).toArray s = true := fun w9 h => hts w9 (List.mem_cons_of_mem _ h)
  obtain ⟨hP, hK⟩ := hB
  obtain ⟨hn0, hn1⟩ := id (jN_s0 hI)
  obtain ⟨hz0, hz1⟩ := id (jN_s1 hI)
  obtain ⟨hl_a, hh_a⟩ := id hb_a
  obtain ⟨hl_b, hh_b⟩ := id hb_b
  obtain ⟨hl_d, hh_d⟩ := id hb_d
  generalize hq : f_M_isAbove N a b d = r
  unfold f_M_isAbove at hq
  replace hl : lv_has ls 8 [(0, .ref (ad 0)), (1, .int (zi a)), (2, .int (zi b)), (3, .int (zi d))] := hl
  refine lv_aload_n hx hb d_M_isAbove_0 rfl (lv_at hl 0 rfl) ?_
  refine va_get (D := (dC, dI)) (ci := 2) (v := .ref (ad 4)) (C := R_M) (T := T_M) (N := 17) hx hb hw i_M hown hK hP 0 rfl rfl 4 (by decide) (hw _ m_230) (fun _ h9 => h9) rfl d_M_isAbove_1 ?_
  refine lv_iload_n hx hb d_M_isAbove_4 rfl (lv_at hl 2 rfl) ?_
  refine zr_iald hx hb hK hP 4 0 (cA := cI) (n := 60) (g := N 3) rfl rfl (i := b) (by omega) (by omega) (by decide) d_M_isAbove_5 ?_
  refine lv_aload_n hx hb d_M_isAbove_6 rfl (lv_at hl 0 rfl) ?_
  refine va_get (D := (dC, dI)) (ci := 2) (v := .ref (ad 4)) (C := R_M) (T := T_M) (N := 17) hx hb hw i_M hown hK hP 0 rfl rfl 4 (by decide) (hw _ m_230) (fun _ h9 => h9) rfl d_M_isAbove_7 ?_
  refine lv_iload_n hx hb d_M_isAbove_10 rfl (lv_at hl 1 rfl) ?_
  refine zr_iald hx hb hK hP 4 0 (cA := cI) (n := 60) (g := N 3) rfl rfl (i := a) (by omega) (by omega) (by decide) d_M_isAbove_11 ?_
  have b_1 : zB (-2545620) 2545620 ((N 3 b) - (N 3 a)) := zB.w (zb_sub (jN_a3 hI b) (jN_a3 hI a)) (by decide) (by decide)
  refine zr_isub hx hb d_M_isAbove_12 ?_
  refine zr_i2l hx hb (zB.I b_1 (by decide) (by decide)) d_M_isAbove_13 ?_
  refine lv_lstore (lv' := [(4, .long (zl ((N 3 b) - (N 3 a)))), (0, .ref (ad 0)), (1, .int (zi a)), (2, .int (zi b)), (3, .int (zi d))]) hx hb d_M_isAbove_14 hl (by decide) rfl (fun ls hl => ?_)
  refine lv_aload_n hx hb d_M_isAbove_16 rfl (lv_at hl 1 rfl) ?_
  refine va_get (D := (dC, dI)) (ci := 2) (v := .ref (ad 4)) (C := R_M) (T := T_M) (N := 17) hx hb hw i_M hown hK hP 0 rfl rfl 4 (by decide) (hw _ m_230) (fun _ h9 => h9) rfl d_M_isAbove_17 ?_
  refine lv_iload_n hx hb d_M_isAbove_20 rfl (lv_at hl 4 rfl) ?_
  refine zr_iald hx hb hK hP 4 0 (cA := cI) (n := 60) (g := N 3) rfl rfl (i := d) (by omega) (by omega) (by decide) d_M_isAbove_21 ?_
  refine lv_aload_n hx hb d_M_isAbove_22 rfl (lv_at hl 1 rfl) ?_
  refine va_get (D := (dC, dI)) (ci := 2) (v := .ref (ad 4)) (C := R_M) (T := T_M) (N := 17) hx hb hw i_M hown hK hP 0 rfl rfl 4 (by decide) (hw _ m_230) (fun _ h9 => h9) rfl d_M_isAbove_23 ?_
  refine lv_iload_n hx hb d_M_isAbove_26 rfl (lv_at hl 2 rfl) ?_
  refine zr_iald hx hb hK hP 4 0 (cA := cI) (n := 60) (g := N 3) rfl rfl (i := a) (by omega) (by omega) (by decide) d_M_isAbove_27 ?_
  have b_2 : zB (-2545620) 2545620 ((N 3 d) - (N 3 a)) := zB.w (zb_sub (jN_a3 hI d) (jN_a3 hI a)) (by decide) (by decide)
  refine zr_isub hx hb d_M_isAbove_28 ?_
  refine zr_i2l hx hb (zB.I b_2 (by decide) (by decide)) d_M_isAbove_29 ?_
  refine lv_lstore (lv' := [(6, .long (zl ((N 3 d) - (N 3 a)))), (4, .long (zl ((N 3 b) - (N 3 a)))), (0, .ref (ad 0)), (1, .int (zi a)), (2, .int (zi b)), (3, .int (zi d))]) hx hb d_M_isAbove_30 hl (by decide) rfl (fun ls hl => ?_)
  refine lv_lload hx hb d_M_isAbove_32 (lv_at hl 1 rfl) ?_
  refine lv_lconst (v := zl 0) hx hb d_M_isAbove_34 (by decide) ?_
  refine zr_lcmp_ge (tgt := 49) hx hb (zB.L b_1 (by decide) (by decide)) (zB.L (zb_c 0) (by decide) (by decide)) d_M_isAbove_35 d_M_isAbove_36 (by decide) (fun c_3 => ?_) (fun c_3 => ?_)
  · replace hq := (if_neg c_3).symm.trans hq
    have r_4 : zB 0 2545620 ((N 3 b) - (N 3 a)) := ⟨(Int.not_lt.mp c_3), b_1.2⟩
    refine lv_aload_n hx hb d_M_isAbove_49 rfl (lv_at hl 2 rfl) ?_
    refine va_get (D := (dC, dI)) (ci := 2) (v := .ref (ad 3)) (C := R_M) (T := T_M) (N := 17) hx hb hw i_M hown hK hP 0 rfl rfl 3 (by decide) (hw _ m_229) (fun _ h9 => h9) rfl d_M_isAbove_50 ?_
    refine lv_iload_n hx hb d_M_isAbove_53 rfl (lv_at hl 5 rfl) ?_
    refine zr_iald hx hb hK hP 3 0 (cA := cI) (n := 60) (g := N 2) rfl rfl (i := d) (by omega) (by omega) (by decide) d_M_isAbove_54 ?_
    refine zr_i2l hx hb (zB.I (jN_a2 hI d) (by decide) (by decide)) d_M_isAbove_55 ?_
    refine lv_lload hx hb d_M_isAbove_56 (lv_at hl 1 rfl) ?_
    have b_5 : zB (-254562000000) 254562000000 ((N 2 d) * ((N 3 b) - (N 3 a))) := zB.w (zb_mul (A := 100000) (B := 2545620) (zB.w (jN_a2 hI d) (by decide) (by decide)) (zB.w r_4 (by decide) (by decide))) (by decide) (by decide)
    refine zr_lmul hx hb d_M_isAbove_58 ?_
    refine lv_lload hx hb d_M_isAbove_59 (lv_at hl 1 rfl) ?_
    refine lv_lload hx hb d_M_isAbove_61 (lv_at hl 0 rfl) ?_
    have b_6 : zB (-2545620) 5091240 (((N 3 b) - (N 3 a)) - ((N 3 d) - (N 3 a))) := zB.w (zb_sub r_4 b_2) (by decide) (by decide)
    refine zr_lsub hx hb d_M_isAbove_63 ?_
    refine lv_aload_n hx hb d_M_isAbove_64 rfl (lv_at hl 2 rfl) ?_
    refine va_get (D := (dC, dI)) (ci := 2) (v := .ref (ad 3)) (C := R_M) (T := T_M) (N := 17) hx hb hw i_M hown hK hP 0 rfl rfl 3 (by decide) (hw _ m_229) (fun _ h9 => h9) rfl d_M_isAbove_65 ?_
    refine lv_iload_n hx hb d_M_isAbove_68 rfl (lv_at hl 3 rfl) ?_
    refine zr_iald hx hb hK hP 3 0 (cA := cI) (n := 60) (g := N 2) rfl rfl (i := a) (by omega) (by omega) (by decide) d_M_isAbove_69 ?_
    refine lv_aload_n hx hb d_M_isAbove_70 rfl (lv_at hl 2 rfl) ?_
    refine va_get (D := (dC, dI)) (ci := 2) (v := .int (zi (N 7 2))) (C := R_M) (T := T_M) (N := 17) hx hb hw i_M hown hK hP 0 rfl rfl 9 (by decide) (hw _ m_235) (fun _ h9 => h9) rfl d_M_isAbove_71 ?_
    have b_7 : zB (-100000) 101000 ((N 2 a) + (N 7 2)) := zB.w (zb_add (jN_a2 hI a) (jN_s2 hI)) (by decide) (by decide)
    refine zr_iadd hx hb d_M_isAbove_74 ?_
    refine zr_i2l hx hb (zB.I b_7 (by decide) (by decide)) d_M_isAbove_75 ?_
    have b_8 : zB (-514215240000) 514215240000 ((((N 3 b) - (N 3 a)) - ((N 3 d) - (N 3 a))) * ((N 2 a) + (N 7 2))) := zB.w (zb_mul (A := 5091240) (B := 101000) (zB.w b_6 (by decide) (by decide)) (zB.w b_7 (by decide) (by decide))) (by decide) (by decide)
    refine zr_lmul hx hb d_M_isAbove_76 ?_
    refine lv_lload hx hb d_M_isAbove_77 (lv_at hl 0 rfl) ?_
    refine lv_aload_n hx hb d_M_isAbove_79 rfl (lv_at hl 2 rfl) ?_
    refine va_get (D := (dC, dI)) (ci := 2) (v := .ref (ad 3)) (C := R_M) (T := T_M) (N := 17) hx hb hw i_M hown hK hP 0 rfl rfl 3 (by decide) (hw _ m_229) (fun _ h9 => h9) rfl d_M_isAbove_80 ?_
    refine lv_iload_n hx hb d_M_isAbove_83 rfl (lv_at hl 4 rfl) ?_
    refine zr_iald hx hb hK hP 3 0 (cA := cI) (n := 60) (g := N 2) rfl rfl (i := b) (by omega) (by omega) (by decide) d_M_isAbove_84 ?_
    refine lv_aload_n hx hb d_M_isAbove_85 rfl (lv_at hl 2 rfl) ?_
    refine va_get (D := (dC, dI)) (ci := 2) (v := .int (zi (N 7 3))) (C := R_M) (T := T_M) (N := 17) hx hb hw i_M hown hK hP 0 rfl rfl 10 (by decide) (hw _ m_236) (fun _ h9 => h9) rfl d_M_isAbove_86 ?_
    have b_9 : zB (-100000) 101000 ((N 2 b) + (N 7 3)) := zB.w (zb_add (jN_a2 hI b) (jN_s3 hI)) (by decide) (by decide)
    refine zr_iadd hx hb d_M_isAbove_89 ?_
    refine zr_i2l hx hb (zB.I b_9 (by decide) (by decide)) d_M_isAbove_90 ?_
    have b_10 : zB (-257107620000) 257107620000 (((N 3 d) - (N 3 a)) * ((N 2 b) + (N 7 3))) := zB.w (zb_mul (A := 2545620) (B := 101000) (zB.w b_2 (by decide) (by decide)) (zB.w b_9 (by decide) (by decide))) (by decide) (by decide)
    refine zr_lmul hx hb d_M_isAbove_91 ?_
    have b_11 : zB (-771322860000) 771322860000 (((((N 3 b) - (N 3 a)) - ((N 3 d) - (N 3 a))) * ((N 2 a) + (N 7 2))) + (((N 3 d) - (N 3 a)) * ((N 2 b) + (N 7 3)))) := zB.w (zb_add b_8 b_10) (by decide) (by decide)
    refine zr_ladd hx hb d_M_isAbove_92 ?_
    refine zr_lcmp_le (tgt := 101) hx hb (zB.L b_5 (by decide) (by decide)) (zB.L b_11 (by decide) (by decide)) d_M_isAbove_93 d_M_isAbove_94 (by decide) (fun c_12 => ?_) (fun c_12 => ?_)
    · replace hq := (if_neg c_12).symm.trans hq
      refine lv_iconst (v := zi 0) hx hb d_M_isAbove_101 rfl ?_
      exact ze_z hx hb hr hlocks (zB.w (zb_c 0) (by decide) (by decide)) hq d_M_isAbove_102
    · replace hq := (if_pos c_12).symm.trans hq
      refine lv_iconst (v := zi 1) hx hb d_M_isAbove_97 rfl ?_
      refine lv_goto (tgt := 102) hx hb d_M_isAbove_98 (by decide) ?_
      exact ze_z hx hb hr hlocks (zB.w (zb_c 1) (by decide) (by decide)) hq d_M_isAbove_102
  · replace hq := (if_pos c_3).symm.trans hq
    have r_13 : zB (-2545620) (-1) ((N 3 b) - (N 3 a)) := ⟨b_1.1, (Int.le_sub_one_of_lt c_3)⟩
    refine lv_lload hx hb d_M_isAbove_39 (lv_at hl 1 rfl) ?_
    have b_14 : zB 1 2545620 (-((N 3 b) - (N 3 a))) := zB.w (zb_neg r_13) (by decide) (by decide)
    refine zr_lneg hx hb d_M_isAbove_41 ?_
    refine lv_lstore (lv' := [(4, .long (zl (-((N 3 b) - (N 3 a))))), (6, .long (zl ((N 3 d) - (N 3 a)))), (0, .ref (ad 0)), (1, .int (zi a)), (2, .int (zi b)), (3, .int (zi d))]) hx hb d_M_isAbove_42 hl (by decide) rfl (fun ls hl => ?_)
    refine lv_lload hx hb d_M_isAbove_44 (lv_at hl 1 rfl) ?_
    have b_15 : zB (-2545620) 2545620 (-((N 3 d) - (N 3 a))) := zB.w (zb_neg b_2) (by decide) (by decide)
    refine zr_lneg hx hb d_M_isAbove_46 ?_
    refine lv_lstore (lv' := [(6, .long (zl (-((N 3 d) - (N 3 a))))), (4, .long (zl (-((N 3 b) - (N 3 a))))), (0, .ref (ad 0)), (1, .int (zi a)), (2, .int (zi b)), (3, .int (zi d))]) hx hb d_M_isAbove_47 hl (by decide) rfl (fun ls hl => ?_)
    refine lv_aload_n hx hb d_M_isAbove_49 rfl (lv_at hl 2 rfl) ?_
    refine va_get (D := (dC, dI)) (ci := 2) (v := .ref (ad 3)) (C := R_M) (T := T_M) (N := 17) hx hb hw i_M hown hK hP 0 rfl rfl 3 (by decide) (hw _ m_229) (fun _ h9 => h9) rfl d_M_isAbove_50 ?_
    refine lv_iload_n hx hb d_M_isAbove_53 rfl (lv_at hl 5 rfl) ?_
    refine zr_iald hx hb hK hP 3 0 (cA := cI) (n := 60) (g := N 2) rfl rfl (i := d) (by omega) (by omega) (by decide) d_M_isAbove_54 ?_
    refine zr_i2l hx hb (zB.I (jN_a2 hI d) (by decide) (by decide)) d_M_isAbove_55 ?_
    refine lv_lload hx hb d_M_isAbove_56 (lv_at hl 1 rfl) ?_
    have b_16 : zB (-254562000000) 254562000000 ((N 2 d) * (-((N 3 b) - (N 3 a)))) := zB.w (zb_mul (A := 100000) (B := 2545620) (zB.w (jN_a2 hI d) (by decide) (by decide)) (zB.w b_14 (by decide) (by decide))) (by decide) (by decide)
    refine zr_lmul hx hb d_M_isAbove_58 ?_
    refine lv_lload hx hb d_M_isAbove_59 (lv_at hl 1 rfl) ?_
    refine lv_lload hx hb d_M_isAbove_61 (lv_at hl 0 rfl) ?_
    have b_17 : zB (-2545619) 5091240 ((-((N 3 b) - (N 3 a))) - (-((N 3 d) - (N 3 a)))) := zB.w (zb_sub b_14 b_15) (by decide) (by decide)
    refine zr_lsub hx hb d_M_isAbove_63 ?_
    refine lv_aload_n hx hb d_M_isAbove_64 rfl (lv_at hl 2 rfl) ?_
    refine va_get (D := (dC, dI)) (ci := 2) (v := .ref (ad 3)) (C := R_M) (T := T_M) (N := 17) hx hb hw i_M hown hK hP 0 rfl rfl 3 (by decide) (hw _ m_229) (fun _ h9 => h9) rfl d_M_isAbove_65 ?_
    refine lv_iload_n hx hb d_M_isAbove_68 rfl (lv_at hl 3 rfl) ?_
    refine zr_iald hx hb hK hP 3 0 (cA := cI) (n := 60) (g := N 2) rfl rfl (i := a) (by omega) (by omega) (by decide) d_M_isAbove_69 ?_
    refine lv_aload_n hx hb d_M_isAbove_70 rfl (lv_at hl 2 rfl) ?_
    refine va_get (D := (dC, dI)) (ci := 2) (v := .int (zi (N 7 2))) (C := R_M) (T := T_M) (N := 17) hx hb hw i_M hown hK hP 0 rfl rfl 9 (by decide) (hw _ m_235) (fun _ h9 => h9) rfl d_M_isAbove_71 ?_
    have b_18 : zB (-100000) 101000 ((N 2 a) + (N 7 2)) := zB.w (zb_add (jN_a2 hI a) (jN_s2 hI)) (by decide) (by decide)
    refine zr_iadd hx hb d_M_isAbove_74 ?_
    refine zr_i2l hx hb (zB.I b_18 (by decide) (by decide)) d_M_isAbove_75 ?_
    have b_19 : zB (-514215240000) 514215240000 (((-((N 3 b) - (N 3 a))) - (-((N 3 d) - (N 3 a)))) * ((N 2 a) + (N 7 2))) := zB.w (zb_mul (A := 5091240) (B := 101000) (zB.w b_17 (by decide) (by decide)) (zB.w b_18 (by decide) (by decide))) (by decide) (by decide)
    refine zr_lmul hx hb d_M_isAbove_76 ?_
    refine lv_lload hx hb d_M_isAbove_77 (lv_at hl 0 rfl) ?_
    refine lv_aload_n hx hb d_M_isAbove_79 rfl (lv_at hl 2 rfl) ?_
    refine va_get (D := (dC, dI)) (ci := 2) (v := .ref (ad 3)) (C := R_M) (T := T_M) (N := 17) hx hb hw i_M hown hK hP 0 rfl rfl 3 (by decide) (hw _ m_229) (fun _ h9 => h9) rfl d_M_isAbove_80 ?_
    refine lv_iload_n hx hb d_M_isAbove_83 rfl (lv_at hl 4 rfl) ?_
    refine zr_iald hx hb hK hP 3 0 (cA := cI) (n := 60) (g := N 2) rfl rfl (i := b) (by omega) (by omega) (by decide) d_M_isAbove_84 ?_
    refine lv_aload_n hx hb d_M_isAbove_85 rfl (lv_at hl 2 rfl) ?_
    refine va_get (D := (dC, dI)) (ci := 2) (v := .int (zi (N 7 3))) (C := R_M) (T := T_M) (N := 17) hx hb hw i_M hown hK hP 0 rfl rfl 10 (by decide) (hw _ m_236) (fun _ h9 => h9) rfl d_M_isAbove_86 ?_
    have b_20 : zB (-100000) 101000 ((N 2 b) + (N 7 3)) := zB.w (zb_add (jN_a2 hI b) (jN_s3 hI)) (by decide) (by decide)
    refine zr_iadd hx hb d_M_isAbove_89 ?_
    refine zr_i2l hx hb (zB.I b_20 (by decide) (by decide)) d_M_isAbove_90 ?_
    have b_21 : zB (-257107620000) 257107620000 ((-((N 3 d) - (N 3 a))) * ((N 2 b) + (N 7 3))) := zB.w (zb_mul (A := 2545620) (B := 101000) (zB.w b_15 (by decide) (by decide)) (zB.w b_20 (by decide) (by decide))) (by decide) (by decide)
    refine zr_lmul hx hb d_M_isAbove_91 ?_
    have b_22 : zB (-771322860000) 771322860000 ((((-((N 3 b) - (N 3 a))) - (-((N 3 d) - (N 3 a)))) * ((N 2 a) + (N 7 2))) + ((-((N 3 d) - (N 3 a))) * ((N 2 b) + (N 7 3)))) := zB.w (zb_add b_19 b_21) (by decide) (by decide)
    refine zr_ladd hx hb d_M_isAbove_92 ?_
    refine zr_lcmp_le (tgt := 101) hx hb (zB.L b_16 (by decide) (by decide)) (zB.L b_22 (by decide) (by decide)) d_M_isAbove_93 d_M_isAbove_94 (by decide) (fun c_23 => ?_) (fun c_23 => ?_)
    · replace hq := (if_neg c_23).symm.trans hq
      refine lv_iconst (v := zi 0) hx hb d_M_isAbove_101 rfl ?_
      exact ze_z hx hb hr hlocks (zB.w (zb_c 0) (by decide) (by decide)) hq d_M_isAbove_102
    · replace hq := (if_pos c_23).symm.trans hq
      refine lv_iconst (v := zi 1) hx hb d_M_isAbove_97 rfl ?_
      refine lv_goto (tgt := 102) hx hb d_M_isAbove_98 (by decide) ?_
      exact ze_z hx hb hr hlocks (zB.w (zb_c 1) (by decide) (by decide)) hq d_M_isAbove_102
def f_M_isBanked (N : Nat → Int → Int) (a b d : Int) : Int := if a < b then (if 0 < (f_M_beside N a b d) then (if (N 5 ((2 * d) + 1)) < 0 then (0) else (if ((f_M_square (N 5 ((2 * d) + 1))) * (f_M_lengthSquare N a b)) < (f_M_square (f_M_beside N a b d)) then (1) else (0))) else (if (f_M_beside N a b d) = 0 then (0) else (if (N 5 ((2 * d) + 0)) < 0 then (0) else (if ((f_M_square (N 5 ((2 * d) + 0))) * (f_M_lengthSquare N a b)) < (f_M_square (f_M_beside N a b d)) then (1) else (0))))) else (if 0 < (f_M_beside N b a d) then (if (N 5 ((2 * d) + 1)) < 0 then (0) else (if ((f_M_square (N 5 ((2 * d) + 1))) * (f_M_lengthSquare N b a)) < (f_M_square (f_M_beside N b a d)) then (1) else (0))) else (if (f_M_beside N b a d) = 0 then (0) else (if (N 5 ((2 * d) + 0)) < 0 then (0) else (if ((f_M_square (N 5 ((2 * d) + 0))) * (f_M_lengthSquare N b a)) < (f_M_square (f_M_beside N b a d)) then (1) else (0)))))
theorem bb_M_isBanked (N : Nat → Int → Int) (a b d : Int) : zB 0 1 (f_M_isBanked N a b d) := by
  unfold f_M_isBanked
  repeat' split
  all_goals first | exact ⟨by decide, by decide⟩  | apply bb_M_within
set_option maxHeartbeats 4000000 in
set_option maxRecDepth 100000 in
theorem k_M_isBanked (l : Launch) (dC : Nat → ClassId) (dI : Nat → Nat → Nat) (ad : Nat → Nat) (cI : ClassId) (N : Nat → Int → Int) (k0 k1 k2 k3 : Int) (hI : jN N) (a b d : Int) (hb_a : zB 0 59 a) (hb_b : zB 0 59 b) (hb_d : zB 0 59 d) : Met l y_M_isBanked (Cond.code y_M_isBanked c_M_isBanked 9 (some .boolean) :: zT) { frames := 2, cells := 0, slots := 0, locals := 43 } (va_Pc ([.ref (ad 0), .int (zi a), .int (zi b), .int (zi d)] : List Value) (zWM dC dI ad cI N k0 k1 k2 k3)) (zR (.int (zi (f_M_isBanked N a b d)))) 0 0 (fun _ => False) := by
  refine zh (cc := c_M_isBanked) (C := R_M) (by decide) rfl rfl (Nat.le_of_ble_eq_true rfl) ?_
  intro p e s m below meth c ls hx hb hr hlocks hml hown hname hts hl hB
  have hw : ∀ w9 ∈ zT, w9.before ([.ref (ad 0), .int (zi a), .int (zi b), .int (zi d)] : List Value).toArray s = true := fun w9 h => hts w9 (List.mem_cons_of_mem _ h)
  obtain ⟨hP, hK⟩ := hB
  obtain ⟨hn0, hn1⟩ := id (jN_s0 hI)
  obtain ⟨hz0, hz1⟩ := id (jN_s1 hI)
  obtain ⟨hl_a, hh_a⟩ := id hb_a
  obtain ⟨hl_b, hh_b⟩ := id hb_b
  obtain ⟨hl_d, hh_d⟩ := id hb_d
  generalize hq : f_M_isBanked N a b d = r
  unfold f_M_isBanked at hq
  replace hl : lv_has ls 9 [(0, .ref (ad 0)), (1, .int (zi a)), (2, .int (zi b)), (3, .int (zi d))] := hl
  refine lv_iload_n hx hb d_M_isBanked_0 rfl (lv_at hl 1 rfl) ?_
  refine lv_iload_n hx hb d_M_isBanked_1 rfl (lv_at hl 2 rfl) ?_
  refine zr_icmp_ge (tgt := 9) hx hb (zB.I hb_a (by decide) (by decide)) (zB.I hb_b (by decide) (by decide)) d_M_isBanked_2 (by decide) (fun c_1 => ?_) (fun c_1 => ?_)
  · replace hq := (if_neg c_1).symm.trans hq
    refine lv_iload_n hx hb d_M_isBanked_9 rfl (lv_at hl 2 rfl) ?_
    refine lv_istore (lv' := [(4, .int (zi b)), (0, .ref (ad 0)), (1, .int (zi a)), (2, .int (zi b)), (3, .int (zi d))]) hx hb d_M_isBanked_10 hl (by decide) rfl (fun ls hl => ?_)
    refine lv_iload_n hx hb d_M_isBanked_12 rfl (lv_at hl 2 rfl) ?_
    refine lv_iload_n hx hb d_M_isBanked_13 rfl (lv_at hl 3 rfl) ?_
    refine zr_icmp_ge (tgt := 21) hx hb (zB.I hb_a (by decide) (by decide)) (zB.I hb_b (by decide) (by decide)) d_M_isBanked_14 (by decide) (fun _ => ?_) (fun c => absurd c c_1)
    refine lv_iload_n hx hb d_M_isBanked_21 rfl (lv_at hl 2 rfl) ?_
    refine lv_istore (lv' := [(5, .int (zi a)), (4, .int (zi b)), (0, .ref (ad 0)), (1, .int (zi a)), (2, .int (zi b)), (3, .int (zi d))]) hx hb d_M_isBanked_22 hl (by decide) rfl (fun ls hl => ?_)
    refine lv_aload_n hx hb d_M_isBanked_24 rfl (lv_at hl 2 rfl) ?_
    refine lv_iload hx hb d_M_isBanked_25 (lv_at hl 1 rfl) ?_
    refine lv_iload hx hb d_M_isBanked_27 (lv_at hl 0 rfl) ?_
    refine lv_iload_n hx hb d_M_isBanked_29 rfl (lv_at hl 5 rfl) ?_
    refine zc_n (va_runV (As := [.int (zi b), .int (zi a), .int (zi d)]) (rest := []) ⟨hx, hb, hml, hown, hts⟩ (k_M_beside l dC dI ad cI N k0 k1 k2 k3 hI b a d (zB.w hb_b (by decide) (by decide)) (zB.w hb_a (by decide) (by decide)) (zB.w hb_d (by decide) (by decide)) ) (zcV 3 hts m_305 m_3 m_303 m_304 m_396 rfl rfl q_M_beside ⟨Nat.le_of_ble_eq_true rfl, Nat.le_of_ble_eq_true rfl⟩) (zpM0 hP hK [.int (zi b), .int (zi a), .int (zi d)]) rfl rfl hl.1 rfl (lv_room (Nat.le_of_ble_eq_true rfl)) d_M_isBanked_30 ⟨Nat.zero_le _, Nat.zero_le _⟩) ?_
    have b_2 : zB (-1800000000) 1800000000 (f_M_beside N b a d) := br_M_beside N b a d hI (zB.w hb_b (by decide) (by decide)) (zB.w hb_a (by decide) (by decide)) (zB.w hb_d (by decide) (by decide)) 
    refine lv_lstore (lv' := [(6, .long (zl (f_M_beside N b a d))), (5, .int (zi a)), (4, .int (zi b)), (0, .ref (ad 0)), (1, .int (zi a)), (2, .int (zi b)), (3, .int (zi d))]) hx hb d_M_isBanked_33 hl (by decide) rfl (fun ls hl => ?_)
    refine lv_aload_n hx hb d_M_isBanked_35 rfl (lv_at hl 3 rfl) ?_
    refine va_get (D := (dC, dI)) (ci := 2) (v := .ref (ad 6)) (C := R_M) (T := T_M) (N := 17) hx hb hw i_M hown hK hP 0 rfl rfl 6 (by decide) (hw _ m_232) (fun _ h9 => h9) rfl d_M_isBanked_36 ?_
    refine lv_iconst (v := zi 2) hx hb d_M_isBanked_39 rfl ?_
    refine lv_iload_n hx hb d_M_isBanked_40 rfl (lv_at hl 6 rfl) ?_
    have b_3 : zB 0 118 (2 * d) := zB.w (zb_mulq (zb_c 2) hb_d (by decide) (by decide)) (by decide) (by decide)
    refine zr_imul hx hb d_M_isBanked_41 ?_
    refine lv_lload hx hb d_M_isBanked_42 (lv_at hl 0 rfl) ?_
    refine lv_lconst (v := zl 0) hx hb d_M_isBanked_44 (by decide) ?_
    refine zr_lcmp_le (tgt := 53) hx hb (zB.L b_2 (by decide) (by decide)) (zB.L (zb_c 0) (by decide) (by decide)) d_M_isBanked_45 d_M_isBanked_46 (by decide) (fun c_4 => ?_) (fun c_4 => ?_)
    · replace hq := (if_neg c_4).symm.trans hq
      have r_5 : zB (-1800000000) 0 (f_M_beside N b a d) := ⟨b_2.1, (Int.not_lt.mp c_4)⟩
      refine lv_iconst (v := zi 0) hx hb d_M_isBanked_53 rfl ?_
      have b_6 : zB 0 118 ((2 * d) + 0) := zB.w (zb_add b_3 (zb_c 0)) (by decide) (by decide)
      refine zr_iadd hx hb d_M_isBanked_54 ?_
      refine zr_iald hx hb hK hP 6 0 (cA := cI) (n := 120) (g := N 5) rfl rfl (i := (2 * d) + 0) (by omega) (by omega) (by decide) d_M_isBanked_55 ?_
      refine lv_istore (lv' := [(8, .int (zi (N 5 ((2 * d) + 0)))), (6, .long (zl (f_M_beside N b a d))), (5, .int (zi a)), (4, .int (zi b)), (0, .ref (ad 0)), (1, .int (zi a)), (2, .int (zi b)), (3, .int (zi d))]) hx hb d_M_isBanked_56 hl (by decide) rfl (fun ls hl => ?_)
      refine lv_lload hx hb d_M_isBanked_58 (lv_at hl 1 rfl) ?_
      refine lv_lconst (v := zl 0) hx hb d_M_isBanked_60 (by decide) ?_
      refine zr_lcmp_eq (tgt := 98) hx hb (zB.L r_5 (by decide) (by decide)) (zB.L (zb_c 0) (by decide) (by decide)) d_M_isBanked_61 d_M_isBanked_62 (by decide) (fun c_7 => ?_) (fun c_7 => ?_)
      · replace hq := (if_pos c_7).symm.trans hq
        have r_8 : zB 0 0 (f_M_beside N b a d) := ⟨(Int.le_of_eq c_7.symm), (Int.le_of_eq c_7)⟩
        refine lv_iconst (v := zi 0) hx hb d_M_isBanked_98 rfl ?_
        exact ze_z hx hb hr hlocks (zB.w (zb_c 0) (by decide) (by decide)) hq d_M_isBanked_99
      · replace hq := (if_neg c_7).symm.trans hq
        refine lv_iload hx hb d_M_isBanked_65 (lv_at hl 0 rfl) ?_
        refine zr_if_lt (tgt := 98) hx hb (zB.I (jN_a5 hI ((2 * d) + 0)) (by decide) (by decide)) d_M_isBanked_67 (by decide) (fun c_9 => ?_) (fun c_9 => ?_)
        · replace hq := (if_pos c_9).symm.trans hq
          have r_10 : zB (-1) (-1) (N 5 ((2 * d) + 0)) := ⟨(jN_a5 hI ((2 * d) + 0)).1, (Int.le_sub_one_of_lt c_9)⟩
          refine lv_iconst (v := zi 0) hx hb d_M_isBanked_98 rfl ?_
          exact ze_z hx hb hr hlocks (zB.w (zb_c 0) (by decide) (by decide)) hq d_M_isBanked_99
        · replace hq := (if_neg c_9).symm.trans hq
          have r_11 : zB 0 1000 (N 5 ((2 * d) + 0)) := ⟨(Int.not_lt.mp c_9), (jN_a5 hI ((2 * d) + 0)).2⟩
          refine lv_lload hx hb d_M_isBanked_70 (lv_at hl 1 rfl) ?_
          refine zc_n (va_runS (As := [.long (zl (f_M_beside N b a d))]) (rest := []) ⟨hx, hb, hml, hown, hts⟩ (k_M_square l (f_M_beside N b a d) (zB.w r_5 (by decide) (by decide)) ) (zcS 1 hts m_257 m_3 m_255 m_256 rfl rfl q_M_square ⟨Nat.le_of_ble_eq_true rfl, Nat.le_of_ble_eq_true rfl⟩) (zp0 [.long (zl (f_M_beside N b a d))]) rfl rfl hl.1 rfl (lv_room (Nat.le_of_ble_eq_true rfl)) d_M_isBanked_72 ⟨Nat.zero_le _, Nat.zero_le _⟩) ?_
          have b_12 : zB 0 3240000000000000000 (f_M_square (f_M_beside N b a d)) := zB.w (zb_sq (A := 1800000000) (zB.w r_5 (by decide) (by decide))) (by decide) (by decide)
          refine lv_iload hx hb d_M_isBanked_75 (lv_at hl 0 rfl) ?_
          refine zr_i2l hx hb (zB.I r_11 (by decide) (by decide)) d_M_isBanked_77 ?_
          refine zc_n (va_runS (As := [.long (zl (N 5 ((2 * d) + 0)))]) (rest := [.long (zl (f_M_square (f_M_beside N b a d)))]) ⟨hx, hb, hml, hown, hts⟩ (k_M_square l (N 5 ((2 * d) + 0)) (zB.w r_11 (by decide) (by decide)) ) (zcS 1 hts m_257 m_3 m_255 m_256 rfl rfl q_M_square ⟨Nat.le_of_ble_eq_true rfl, Nat.le_of_ble_eq_true rfl⟩) (zp0 [.long (zl (N 5 ((2 * d) + 0)))]) rfl rfl hl.1 rfl (lv_room (Nat.le_of_ble_eq_true rfl)) d_M_isBanked_78 ⟨Nat.zero_le _, Nat.zero_le _⟩) ?_
          have b_13 : zB 0 1000000 (f_M_square (N 5 ((2 * d) + 0))) := zB.w (zb_sq (A := 1000) (zB.w r_11 (by decide) (by decide))) (by decide) (by decide)
          refine lv_aload_n hx hb d_M_isBanked_81 rfl (lv_at hl 4 rfl) ?_
          refine lv_iload hx hb d_M_isBanked_82 (lv_at hl 3 rfl) ?_
          refine lv_iload hx hb d_M_isBanked_84 (lv_at hl 2 rfl) ?_
          refine zc_n (va_runV (As := [.int (zi b), .int (zi a)]) (rest := [.long (zl (f_M_square (N 5 ((2 * d) + 0)))), .long (zl (f_M_square (f_M_beside N b a d)))]) ⟨hx, hb, hml, hown, hts⟩ (k_M_lengthSquare l dC dI ad cI N k0 k1 k2 k3 hI b a (zB.w hb_b (by decide) (by decide)) (zB.w hb_a (by decide) (by decide)) ) (zcV 2 hts m_308 m_3 m_306 m_307 m_397 rfl rfl q_M_lengthSquare ⟨Nat.le_of_ble_eq_true rfl, Nat.le_of_ble_eq_true rfl⟩) (zpM0 hP hK [.int (zi b), .int (zi a)]) rfl rfl hl.1 rfl (lv_room (Nat.le_of_ble_eq_true rfl)) d_M_isBanked_86 ⟨Nat.zero_le _, Nat.zero_le _⟩) ?_
          have b_14 : zB 0 1800000000 (f_M_lengthSquare N b a) := br_M_lengthSquare N b a hI (zB.w hb_b (by decide) (by decide)) (zB.w hb_a (by decide) (by decide)) 
          have b_15 : zB 0 1800000000000000 ((f_M_square (N 5 ((2 * d) + 0))) * (f_M_lengthSquare N b a)) := zB.w (zb_mulq b_13 b_14 (by decide) (by decide)) (by decide) (by decide)
          refine zr_lmul hx hb d_M_isBanked_89 ?_
          refine zr_lcmp_le (tgt := 98) hx hb (zB.L b_12 (by decide) (by decide)) (zB.L b_15 (by decide) (by decide)) d_M_isBanked_90 d_M_isBanked_91 (by decide) (fun c_16 => ?_) (fun c_16 => ?_)
          · replace hq := (if_neg c_16).symm.trans hq
            refine lv_iconst (v := zi 0) hx hb d_M_isBanked_98 rfl ?_
            exact ze_z hx hb hr hlocks (zB.w (zb_c 0) (by decide) (by decide)) hq d_M_isBanked_99
          · replace hq := (if_pos c_16).symm.trans hq
            refine lv_iconst (v := zi 1) hx hb d_M_isBanked_94 rfl ?_
            refine lv_goto (tgt := 99) hx hb d_M_isBanked_95 (by decide) ?_
            exact ze_z hx hb hr hlocks (zB.w (zb_c 1) (by decide) (by decide)) hq d_M_isBanked_99
    · replace hq := (if_pos c_4).symm.trans hq
      have r_17 : zB 1 1800000000 (f_M_beside N b a d) := ⟨(Int.add_one_le_of_lt c_4), b_2.2⟩
      refine lv_iconst (v := zi 1) hx hb d_M_isBanked_49 rfl ?_
      refine lv_goto (tgt := 54) hx hb d_M_isBanked_50 (by decide) ?_
      have b_18 : zB 1 119 ((2 * d) + 1) := zB.w (zb_add b_3 (zb_c 1)) (by decide) (by decide)
      refine zr_iadd hx hb d_M_isBanked_54 ?_
      refine zr_iald hx hb hK hP 6 0 (cA := cI) (n := 120) (g := N 5) rfl rfl (i := (2 * d) + 1) (by omega) (by omega) (by decide) d_M_isBanked_55 ?_
      refine lv_istore (lv' := [(8, .int (zi (N 5 ((2 * d) + 1)))), (6, .long (zl (f_M_beside N b a d))), (5, .int (zi a)), (4, .int (zi b)), (0, .ref (ad 0)), (1, .int (zi a)), (2, .int (zi b)), (3, .int (zi d))]) hx hb d_M_isBanked_56 hl (by decide) rfl (fun ls hl => ?_)
      refine lv_lload hx hb d_M_isBanked_58 (lv_at hl 1 rfl) ?_
      refine lv_lconst (v := zl 0) hx hb d_M_isBanked_60 (by decide) ?_
      refine zr_lcmp_eq (tgt := 98) hx hb (zB.L r_17 (by decide) (by decide)) (zB.L (zb_c 0) (by decide) (by decide)) d_M_isBanked_61 d_M_isBanked_62 (by decide) (fun c => absurd c (by have h9 := r_17.1; have h8 := r_17.2; have h7 := (zb_c 0).1; have h6 := (zb_c 0).2; omega : ¬ (f_M_beside N b a d) = 0)) (fun _ => ?_)
      refine lv_iload hx hb d_M_isBanked_65 (lv_at hl 0 rfl) ?_
      refine zr_if_lt (tgt := 98) hx hb (zB.I (jN_a5 hI ((2 * d) + 1)) (by decide) (by decide)) d_M_isBanked_67 (by decide) (fun c_19 => ?_) (fun c_19 => ?_)
      · replace hq := (if_pos c_19).symm.trans hq
        have r_20 : zB (-1) (-1) (N 5 ((2 * d) + 1)) := ⟨(jN_a5 hI ((2 * d) + 1)).1, (Int.le_sub_one_of_lt c_19)⟩
        refine lv_iconst (v := zi 0) hx hb d_M_isBanked_98 rfl ?_
        exact ze_z hx hb hr hlocks (zB.w (zb_c 0) (by decide) (by decide)) hq d_M_isBanked_99
      · replace hq := (if_neg c_19).symm.trans hq
        have r_21 : zB 0 1000 (N 5 ((2 * d) + 1)) := ⟨(Int.not_lt.mp c_19), (jN_a5 hI ((2 * d) + 1)).2⟩
        refine lv_lload hx hb d_M_isBanked_70 (lv_at hl 1 rfl) ?_
        refine zc_n (va_runS (As := [.long (zl (f_M_beside N b a d))]) (rest := []) ⟨hx, hb, hml, hown, hts⟩ (k_M_square l (f_M_beside N b a d) (zB.w r_17 (by decide) (by decide)) ) (zcS 1 hts m_257 m_3 m_255 m_256 rfl rfl q_M_square ⟨Nat.le_of_ble_eq_true rfl, Nat.le_of_ble_eq_true rfl⟩) (zp0 [.long (zl (f_M_beside N b a d))]) rfl rfl hl.1 rfl (lv_room (Nat.le_of_ble_eq_true rfl)) d_M_isBanked_72 ⟨Nat.zero_le _, Nat.zero_le _⟩) ?_
        have b_22 : zB 0 3240000000000000000 (f_M_square (f_M_beside N b a d)) := zB.w (zb_sq (A := 1800000000) (zB.w r_17 (by decide) (by decide))) (by decide) (by decide)
        refine lv_iload hx hb d_M_isBanked_75 (lv_at hl 0 rfl) ?_
        refine zr_i2l hx hb (zB.I r_21 (by decide) (by decide)) d_M_isBanked_77 ?_
        refine zc_n (va_runS (As := [.long (zl (N 5 ((2 * d) + 1)))]) (rest := [.long (zl (f_M_square (f_M_beside N b a d)))]) ⟨hx, hb, hml, hown, hts⟩ (k_M_square l (N 5 ((2 * d) + 1)) (zB.w r_21 (by decide) (by decide)) ) (zcS 1 hts m_257 m_3 m_255 m_256 rfl rfl q_M_square ⟨Nat.le_of_ble_eq_true rfl, Nat.le_of_ble_eq_true rfl⟩) (zp0 [.long (zl (N 5 ((2 * d) + 1)))]) rfl rfl hl.1 rfl (lv_room (Nat.le_of_ble_eq_true rfl)) d_M_isBanked_78 ⟨Nat.zero_le _, Nat.zero_le _⟩) ?_
        have b_23 : zB 0 1000000 (f_M_square (N 5 ((2 * d) + 1))) := zB.w (zb_sq (A := 1000) (zB.w r_21 (by decide) (by decide))) (by decide) (by decide)
        refine lv_aload_n hx hb d_M_isBanked_81 rfl (lv_at hl 4 rfl) ?_
        refine lv_iload hx hb d_M_isBanked_82 (lv_at hl 3 rfl) ?_
        refine lv_iload hx hb d_M_isBanked_84 (lv_at hl 2 rfl) ?_
        refine zc_n (va_runV (As := [.int (zi b), .int (zi a)]) (rest := [.long (zl (f_M_square (N 5 ((2 * d) + 1)))), .long (zl (f_M_square (f_M_beside N b a d)))]) ⟨hx, hb, hml, hown, hts⟩ (k_M_lengthSquare l dC dI ad cI N k0 k1 k2 k3 hI b a (zB.w hb_b (by decide) (by decide)) (zB.w hb_a (by decide) (by decide)) ) (zcV 2 hts m_308 m_3 m_306 m_307 m_397 rfl rfl q_M_lengthSquare ⟨Nat.le_of_ble_eq_true rfl, Nat.le_of_ble_eq_true rfl⟩) (zpM0 hP hK [.int (zi b), .int (zi a)]) rfl rfl hl.1 rfl (lv_room (Nat.le_of_ble_eq_true rfl)) d_M_isBanked_86 ⟨Nat.zero_le _, Nat.zero_le _⟩) ?_
        have b_24 : zB 0 1800000000 (f_M_lengthSquare N b a) := br_M_lengthSquare N b a hI (zB.w hb_b (by decide) (by decide)) (zB.w hb_a (by decide) (by decide)) 
        have b_25 : zB 0 1800000000000000 ((f_M_square (N 5 ((2 * d) + 1))) * (f_M_lengthSquare N b a)) := zB.w (zb_mulq b_23 b_24 (by decide) (by decide)) (by decide) (by decide)
        refine zr_lmul hx hb d_M_isBanked_89 ?_
        refine zr_lcmp_le (tgt := 98) hx hb (zB.L b_22 (by decide) (by decide)) (zB.L b_25 (by decide) (by decide)) d_M_isBanked_90 d_M_isBanked_91 (by decide) (fun c_26 => ?_) (fun c_26 => ?_)
        · replace hq := (if_neg c_26).symm.trans hq
          refine lv_iconst (v := zi 0) hx hb d_M_isBanked_98 rfl ?_
          exact ze_z hx hb hr hlocks (zB.w (zb_c 0) (by decide) (by decide)) hq d_M_isBanked_99
        · replace hq := (if_pos c_26).symm.trans hq
          refine lv_iconst (v := zi 1) hx hb d_M_isBanked_94 rfl ?_
          refine lv_goto (tgt := 99) hx hb d_M_isBanked_95 (by decide) ?_
          exact ze_z hx hb hr hlocks (zB.w (zb_c 1) (by decide) (by decide)) hq d_M_isBanked_99
  · replace hq := (if_pos c_1).symm.trans hq
    refine lv_iload_n hx hb d_M_isBanked_5 rfl (lv_at hl 1 rfl) ?_
    refine lv_goto (tgt := 10) hx hb d_M_isBanked_6 (by decide) ?_
    refine lv_istore (lv' := [(4, .int (zi a)), (0, .ref (ad 0)), (1, .int (zi a)), (2, .int (zi b)), (3, .int (zi d))]) hx hb d_M_isBanked_10 hl (by decide) rfl (fun ls hl => ?_)
    refine lv_iload_n hx hb d_M_isBanked_12 rfl (lv_at hl 2 rfl) ?_
    refine lv_iload_n hx hb d_M_isBanked_13 rfl (lv_at hl 3 rfl) ?_
    refine zr_icmp_ge (tgt := 21) hx hb (zB.I hb_a (by decide) (by decide)) (zB.I hb_b (by decide) (by decide)) d_M_isBanked_14 (by decide) (fun c => absurd c_1 c) (fun _ => ?_)
    refine lv_iload_n hx hb d_M_isBanked_17 rfl (lv_at hl 3 rfl) ?_
    refine lv_goto (tgt := 22) hx hb d_M_isBanked_18 (by decide) ?_
    refine lv_istore (lv' := [(5, .int (zi b)), (4, .int (zi a)), (0, .ref (ad 0)), (1, .int (zi a)), (2, .int (zi b)), (3, .int (zi d))]) hx hb d_M_isBanked_22 hl (by decide) rfl (fun ls hl => ?_)
    refine lv_aload_n hx hb d_M_isBanked_24 rfl (lv_at hl 2 rfl) ?_
    refine lv_iload hx hb d_M_isBanked_25 (lv_at hl 1 rfl) ?_
    refine lv_iload hx hb d_M_isBanked_27 (lv_at hl 0 rfl) ?_
    refine lv_iload_n hx hb d_M_isBanked_29 rfl (lv_at hl 5 rfl) ?_
    refine zc_n (va_runV (As := [.int (zi a), .int (zi b), .int (zi d)]) (rest := []) ⟨hx, hb, hml, hown, hts⟩ (k_M_beside l dC dI ad cI N k0 k1 k2 k3 hI a b d (zB.w hb_a (by decide) (by decide)) (zB.w hb_b (by decide) (by decide)) (zB.w hb_d (by decide) (by decide)) ) (zcV 3 hts m_305 m_3 m_303 m_304 m_396 rfl rfl q_M_beside ⟨Nat.le_of_ble_eq_true rfl, Nat.le_of_ble_eq_true rfl⟩) (zpM0 hP hK [.int (zi a), .int (zi b), .int (zi d)]) rfl rfl hl.1 rfl (lv_room (Nat.le_of_ble_eq_true rfl)) d_M_isBanked_30 ⟨Nat.zero_le _, Nat.zero_le _⟩) ?_
    have b_27 : zB (-1800000000) 1800000000 (f_M_beside N a b d) := br_M_beside N a b d hI (zB.w hb_a (by decide) (by decide)) (zB.w hb_b (by decide) (by decide)) (zB.w hb_d (by decide) (by decide)) 
    refine lv_lstore (lv' := [(6, .long (zl (f_M_beside N a b d))), (5, .int (zi b)), (4, .int (zi a)), (0, .ref (ad 0)), (1, .int (zi a)), (2, .int (zi b)), (3, .int (zi d))]) hx hb d_M_isBanked_33 hl (by decide) rfl (fun ls hl => ?_)
    refine lv_aload_n hx hb d_M_isBanked_35 rfl (lv_at hl 3 rfl) ?_
    refine va_get (D := (dC, dI)) (ci := 2) (v := .ref (ad 6)) (C := R_M) (T := T_M) (N := 17) hx hb hw i_M hown hK hP 0 rfl rfl 6 (by decide) (hw _ m_232) (fun _ h9 => h9) rfl d_M_isBanked_36 ?_
    refine lv_iconst (v := zi 2) hx hb d_M_isBanked_39 rfl ?_
    refine lv_iload_n hx hb d_M_isBanked_40 rfl (lv_at hl 6 rfl) ?_
    have b_28 : zB 0 118 (2 * d) := zB.w (zb_mulq (zb_c 2) hb_d (by decide) (by decide)) (by decide) (by decide)
    refine zr_imul hx hb d_M_isBanked_41 ?_
    refine lv_lload hx hb d_M_isBanked_42 (lv_at hl 0 rfl) ?_
    refine lv_lconst (v := zl 0) hx hb d_M_isBanked_44 (by decide) ?_
    refine zr_lcmp_le (tgt := 53) hx hb (zB.L b_27 (by decide) (by decide)) (zB.L (zb_c 0) (by decide) (by decide)) d_M_isBanked_45 d_M_isBanked_46 (by decide) (fun c_29 => ?_) (fun c_29 => ?_)
    · replace hq := (if_neg c_29).symm.trans hq
      have r_30 : zB (-1800000000) 0 (f_M_beside N a b d) := ⟨b_27.1, (Int.not_lt.mp c_29)⟩
      refine lv_iconst (v := zi 0) hx hb d_M_isBanked_53 rfl ?_
      have b_31 : zB 0 118 ((2 * d) + 0) := zB.w (zb_add b_28 (zb_c 0)) (by decide) (by decide)
      refine zr_iadd hx hb d_M_isBanked_54 ?_
      refine zr_iald hx hb hK hP 6 0 (cA := cI) (n := 120) (g := N 5) rfl rfl (i := (2 * d) + 0) (by omega) (by omega) (by decide) d_M_isBanked_55 ?_
      refine lv_istore (lv' := [(8, .int (zi (N 5 ((2 * d) + 0)))), (6, .long (zl (f_M_beside N a b d))), (5, .int (zi b)), (4, .int (zi a)), (0, .ref (ad 0)), (1, .int (zi a)), (2, .int (zi b)), (3, .int (zi d))]) hx hb d_M_isBanked_56 hl (by decide) rfl (fun ls hl => ?_)
      refine lv_lload hx hb d_M_isBanked_58 (lv_at hl 1 rfl) ?_
      refine lv_lconst (v := zl 0) hx hb d_M_isBanked_60 (by decide) ?_
      refine zr_lcmp_eq (tgt := 98) hx hb (zB.L r_30 (by decide) (by decide)) (zB.L (zb_c 0) (by decide) (by decide)) d_M_isBanked_61 d_M_isBanked_62 (by decide) (fun c_32 => ?_) (fun c_32 => ?_)
      · replace hq := (if_pos c_32).symm.trans hq
        have r_33 : zB 0 0 (f_M_beside N a b d) := ⟨(Int.le_of_eq c_32.symm), (Int.le_of_eq c_32)⟩
        refine lv_iconst (v := zi 0) hx hb d_M_isBanked_98 rfl ?_
        exact ze_z hx hb hr hlocks (zB.w (zb_c 0) (by decide) (by decide)) hq d_M_isBanked_99
      · replace hq := (if_neg c_32).symm.trans hq
        refine lv_iload hx hb d_M_isBanked_65 (lv_at hl 0 rfl) ?_
        refine zr_if_lt (tgt := 98) hx hb (zB.I (jN_a5 hI ((2 * d) + 0)) (by decide) (by decide)) d_M_isBanked_67 (by decide) (fun c_34 => ?_) (fun c_34 => ?_)
        · replace hq := (if_pos c_34).symm.trans hq
          have r_35 : zB (-1) (-1) (N 5 ((2 * d) + 0)) := ⟨(jN_a5 hI ((2 * d) + 0)).1, (Int.le_sub_one_of_lt c_34)⟩
          refine lv_iconst (v := zi 0) hx hb d_M_isBanked_98 rfl ?_
          exact ze_z hx hb hr hlocks (zB.w (zb_c 0) (by decide) (by decide)) hq d_M_isBanked_99
        · replace hq := (if_neg c_34).symm.trans hq
          have r_36 : zB 0 1000 (N 5 ((2 * d) + 0)) := ⟨(Int.not_lt.mp c_34), (jN_a5 hI ((2 * d) + 0)).2⟩
          refine lv_lload hx hb d_M_isBanked_70 (lv_at hl 1 rfl) ?_
          refine zc_n (va_runS (As := [.long (zl (f_M_beside N a b d))]) (rest := []) ⟨hx, hb, hml, hown, hts⟩ (k_M_square l (f_M_beside N a b d) (zB.w r_30 (by decide) (by decide)) ) (zcS 1 hts m_257 m_3 m_255 m_256 rfl rfl q_M_square ⟨Nat.le_of_ble_eq_true rfl, Nat.le_of_ble_eq_true rfl⟩) (zp0 [.long (zl (f_M_beside N a b d))]) rfl rfl hl.1 rfl (lv_room (Nat.le_of_ble_eq_true rfl)) d_M_isBanked_72 ⟨Nat.zero_le _, Nat.zero_le _⟩) ?_
          have b_37 : zB 0 3240000000000000000 (f_M_square (f_M_beside N a b d)) := zB.w (zb_sq (A := 1800000000) (zB.w r_30 (by decide) (by decide))) (by decide) (by decide)
          refine lv_iload hx hb d_M_isBanked_75 (lv_at hl 0 rfl) ?_
          refine zr_i2l hx hb (zB.I r_36 (by decide) (by decide)) d_M_isBanked_77 ?_
          refine zc_n (va_runS (As := [.long (zl (N 5 ((2 * d) + 0)))]) (rest := [.long (zl (f_M_square (f_M_beside N a b d)))]) ⟨hx, hb, hml, hown, hts⟩ (k_M_square l (N 5 ((2 * d) + 0)) (zB.w r_36 (by decide) (by decide)) ) (zcS 1 hts m_257 m_3 m_255 m_256 rfl rfl q_M_square ⟨Nat.le_of_ble_eq_true rfl, Nat.le_of_ble_eq_true rfl⟩) (zp0 [.long (zl (N 5 ((2 * d) + 0)))]) rfl rfl hl.1 rfl (lv_room (Nat.le_of_ble_eq_true rfl)) d_M_isBanked_78 ⟨Nat.zero_le _, Nat.zero_le _⟩) ?_
          have b_38 : zB 0 1000000 (f_M_square (N 5 ((2 * d) + 0))) := zB.w (zb_sq (A := 1000) (zB.w r_36 (by decide) (by decide))) (by decide) (by decide)
          refine lv_aload_n hx hb d_M_isBanked_81 rfl (lv_at hl 4 rfl) ?_
          refine lv_iload hx hb d_M_isBanked_82 (lv_at hl 3 rfl) ?_
          refine lv_iload hx hb d_M_isBanked_84 (lv_at hl 2 rfl) ?_
          refine zc_n (va_runV (As := [.int (zi a), .int (zi b)]) (rest := [.long (zl (f_M_square (N 5 ((2 * d) + 0)))), .long (zl (f_M_square (f_M_beside N a b d)))]) ⟨hx, hb, hml, hown, hts⟩ (k_M_lengthSquare l dC dI ad cI N k0 k1 k2 k3 hI a b (zB.w hb_a (by decide) (by decide)) (zB.w hb_b (by decide) (by decide)) ) (zcV 2 hts m_308 m_3 m_306 m_307 m_397 rfl rfl q_M_lengthSquare ⟨Nat.le_of_ble_eq_true rfl, Nat.le_of_ble_eq_true rfl⟩) (zpM0 hP hK [.int (zi a), .int (zi b)]) rfl rfl hl.1 rfl (lv_room (Nat.le_of_ble_eq_true rfl)) d_M_isBanked_86 ⟨Nat.zero_le _, Nat.zero_le _⟩) ?_
          have b_39 : zB 0 1800000000 (f_M_lengthSquare N a b) := br_M_lengthSquare N a b hI (zB.w hb_a (by decide) (by decide)) (zB.w hb_b (by decide) (by decide)) 
          have b_40 : zB 0 1800000000000000 ((f_M_square (N 5 ((2 * d) + 0))) * (f_M_lengthSquare N a b)) := zB.w (zb_mulq b_38 b_39 (by decide) (by decide)) (by decide) (by decide)
          refine zr_lmul hx hb d_M_isBanked_89 ?_
          refine zr_lcmp_le (tgt := 98) hx hb (zB.L b_37 (by decide) (by decide)) (zB.L b_40 (by decide) (by decide)) d_M_isBanked_90 d_M_isBanked_91 (by decide) (fun c_41 => ?_) (fun c_41 => ?_)
          · replace hq := (if_neg c_41).symm.trans hq
            refine lv_iconst (v := zi 0) hx hb d_M_isBanked_98 rfl ?_
            exact ze_z hx hb hr hlocks (zB.w (zb_c 0) (by decide) (by decide)) hq d_M_isBanked_99
          · replace hq := (if_pos c_41).symm.trans hq
            refine lv_iconst (v := zi 1) hx hb d_M_isBanked_94 rfl ?_
            refine lv_goto (tgt := 99) hx hb d_M_isBanked_95 (by decide) ?_
            exact ze_z hx hb hr hlocks (zB.w (zb_c 1) (by decide) (by decide)) hq d_M_isBanked_99
    · replace hq := (if_pos c_29).symm.trans hq
      have r_42 : zB 1 1800000000 (f_M_beside N a b d) := ⟨(Int.add_one_le_of_lt c_29), b_27.2⟩
      refine lv_iconst (v := zi 1) hx hb d_M_isBanked_49 rfl ?_
      refine lv_goto (tgt := 54) hx hb d_M_isBanked_50 (by decide) ?_
      have b_43 : zB 1 119 ((2 * d) + 1) := zB.w (zb_add b_28 (zb_c 1)) (by decide) (by decide)
      refine zr_iadd hx hb d_M_isBanked_54 ?_
      refine zr_iald hx hb hK hP 6 0 (cA := cI) (n := 120) (g := N 5) rfl rfl (i := (2 * d) + 1) (by omega) (by omega) (by decide) d_M_isBanked_55 ?_
      refine lv_istore (lv' := [(8, .int (zi (N 5 ((2 * d) + 1)))), (6, .long (zl (f_M_beside N a b d))), (5, .int (zi b)), (4, .int (zi a)), (0, .ref (ad 0)), (1, .int (zi a)), (2, .int (zi b)), (3, .int (zi d))]) hx hb d_M_isBanked_56 hl (by decide) rfl (fun ls hl => ?_)
      refine lv_lload hx hb d_M_isBanked_58 (lv_at hl 1 rfl) ?_
      refine lv_lconst (v := zl 0) hx hb d_M_isBanked_60 (by decide) ?_
      refine zr_lcmp_eq (tgt := 98) hx hb (zB.L r_42 (by decide) (by decide)) (zB.L (zb_c 0) (by decide) (by decide)) d_M_isBanked_61 d_M_isBanked_62 (by decide) (fun c => absurd c (by have h9 := r_42.1; have h8 := r_42.2; have h7 := (zb_c 0).1; have h6 := (zb_c 0).2; omega : ¬ (f_M_beside N a b d) = 0)) (fun _ => ?_)
      refine lv_iload hx hb d_M_isBanked_65 (lv_at hl 0 rfl) ?_
      refine zr_if_lt (tgt := 98) hx hb (zB.I (jN_a5 hI ((2 * d) + 1)) (by decide) (by decide)) d_M_isBanked_67 (by decide) (fun c_44 => ?_) (fun c_44 => ?_)
      · replace hq := (if_pos c_44).symm.trans hq
        have r_45 : zB (-1) (-1) (N 5 ((2 * d) + 1)) := ⟨(jN_a5 hI ((2 * d) + 1)).1, (Int.le_sub_one_of_lt c_44)⟩
        refine lv_iconst (v := zi 0) hx hb d_M_isBanked_98 rfl ?_
        exact ze_z hx hb hr hlocks (zB.w (zb_c 0) (by decide) (by decide)) hq d_M_isBanked_99
      · replace hq := (if_neg c_44).symm.trans hq
        have r_46 : zB 0 1000 (N 5 ((2 * d) + 1)) := ⟨(Int.not_lt.mp c_44), (jN_a5 hI ((2 * d) + 1)).2⟩
        refine lv_lload hx hb d_M_isBanked_70 (lv_at hl 1 rfl) ?_
        refine zc_n (va_runS (As := [.long (zl (f_M_beside N a b d))]) (rest := []) ⟨hx, hb, hml, hown, hts⟩ (k_M_square l (f_M_beside N a b d) (zB.w r_42 (by decide) (by decide)) ) (zcS 1 hts m_257 m_3 m_255 m_256 rfl rfl q_M_square ⟨Nat.le_of_ble_eq_true rfl, Nat.le_of_ble_eq_true rfl⟩) (zp0 [.long (zl (f_M_beside N a b d))]) rfl rfl hl.1 rfl (lv_room (Nat.le_of_ble_eq_true rfl)) d_M_isBanked_72 ⟨Nat.zero_le _, Nat.zero_le _⟩) ?_
        have b_47 : zB 0 3240000000000000000 (f_M_square (f_M_beside N a b d)) := zB.w (zb_sq (A := 1800000000) (zB.w r_42 (by decide) (by decide))) (by decide) (by decide)
        refine lv_iload hx hb d_M_isBanked_75 (lv_at hl 0 rfl) ?_
        refine zr_i2l hx hb (zB.I r_46 (by decide) (by decide)) d_M_isBanked_77 ?_
        refine zc_n (va_runS (As := [.long (zl (N 5 ((2 * d) + 1)))]) (rest := [.long (zl (f_M_square (f_M_beside N a b d)))]) ⟨hx, hb, hml, hown, hts⟩ (k_M_square l (N 5 ((2 * d) + 1)) (zB.w r_46 (by decide) (by decide)) ) (zcS 1 hts m_257 m_3 m_255 m_256 rfl rfl q_M_square ⟨Nat.le_of_ble_eq_true rfl, Nat.le_of_ble_eq_true rfl⟩) (zp0 [.long (zl (N 5 ((2 * d) + 1)))]) rfl rfl hl.1 rfl (lv_room (Nat.le_of_ble_eq_true rfl)) d_M_isBanked_78 ⟨Nat.zero_le _, Nat.zero_le _⟩) ?_
        have b_48 : zB 0 1000000 (f_M_square (N 5 ((2 * d) + 1))) := zB.w (zb_sq (A := 1000) (zB.w r_46 (by decide) (by decide))) (by decide) (by decide)
        refine lv_aload_n hx hb d_M_isBanked_81 rfl (lv_at hl 4 rfl) ?_
        refine lv_iload hx hb d_M_isBanked_82 (lv_at hl 3 rfl) ?_
        refine lv_iload hx hb d_M_isBanked_84 (lv_at hl 2 rfl) ?_
        refine zc_n (va_runV (As := [.int (zi a), .int (zi b)]) (rest := [.long (zl (f_M_square (N 5 ((2 * d) + 1)))), .long (zl (f_M_square (f_M_beside N a b d)))]) ⟨hx, hb, hml, hown, hts⟩ (k_M_lengthSquare l dC dI ad cI N k0 k1 k2 k3 hI a b (zB.w hb_a (by decide) (by decide)) (zB.w hb_b (by decide) (by decide)) ) (zcV 2 hts m_308 m_3 m_306 m_307 m_397 rfl rfl q_M_lengthSquare ⟨Nat.le_of_ble_eq_true rfl, Nat.le_of_ble_eq_true rfl⟩) (zpM0 hP hK [.int (zi a), .int (zi b)]) rfl rfl hl.1 rfl (lv_room (Nat.le_of_ble_eq_true rfl)) d_M_isBanked_86 ⟨Nat.zero_le _, Nat.zero_le _⟩) ?_
        have b_49 : zB 0 1800000000 (f_M_lengthSquare N a b) := br_M_lengthSquare N a b hI (zB.w hb_a (by decide) (by decide)) (zB.w hb_b (by decide) (by decide)) 
        have b_50 : zB 0 1800000000000000 ((f_M_square (N 5 ((2 * d) + 1))) * (f_M_lengthSquare N a b)) := zB.w (zb_mulq b_48 b_49 (by decide) (by decide)) (by decide) (by decide)
        refine zr_lmul hx hb d_M_isBanked_89 ?_
        refine zr_lcmp_le (tgt := 98) hx hb (zB.L b_47 (by decide) (by decide)) (zB.L b_50 (by decide) (by decide)) d_M_isBanked_90 d_M_isBanked_91 (by decide) (fun c_51 => ?_) (fun c_51 => ?_)
        · replace hq := (if_neg c_51).symm.trans hq
          refine lv_iconst (v := zi 0) hx hb d_M_isBanked_98 rfl ?_
          exact ze_z hx hb hr hlocks (zB.w (zb_c 0) (by decide) (by decide)) hq d_M_isBanked_99
        · replace hq := (if_pos c_51).symm.trans hq
          refine lv_iconst (v := zi 1) hx hb d_M_isBanked_94 rfl ?_
          refine lv_goto (tgt := 99) hx hb d_M_isBanked_95 (by decide) ?_
          exact ze_z hx hb hr hlocks (zB.w (zb_c 1) (by decide) (by decide)) hq d_M_isBanked_99
def f_M_cut (a b d v : Int) (k0 k1 k2 k3 : Int) : Int × Int × Int × Int × Int := if (b - a) = 0 then (if a < d then ((0, k0, k1, k2, k3)) else (if v < a then ((0, k0, k1, k2, k3)) else ((1, k0, k1, k2, k3)))) else (if 0 < (b - a) then (if (k0 * (b - a)) < ((d - a) * k1) then (if ((v - a) * k3) < (k2 * (b - a)) then (if ((v - a) * (b - a)) < ((d - a) * (b - a)) then ((0, d - a, b - a, v - a, b - a)) else ((1, d - a, b - a, v - a, b - a))) else (if (k2 * (b - a)) < ((d - a) * k3) then ((0, d - a, b - a, k2, k3)) else ((1, d - a, b - a, k2, k3)))) else (if ((v - a) * k3) < (k2 * (b - a)) then (if ((v - a) * k1) < (k0 * (b - a)) then ((0, k0, k1, v - a, b - a)) else ((1, k0, k1, v - a, b - a))) else (if (k2 * k1) < (k0 * k3) then ((0, k0, k1, k2, k3)) else ((1, k0, k1, k2, k3))))) else (if (k0 * (-(b - a))) < ((a - v) * k1) then (if ((a - d) * k3) < (k2 * (-(b - a))) then (if ((a - d) * (-(b - a))) < ((a - v) * (-(b - a))) then ((0, a - v, -(b - a), a - d, -(b - a))) else ((1, a - v, -(b - a), a - d, -(b - a)))) else (if (k2 * (-(b - a))) < ((a - v) * k3) then ((0, a - v, -(b - a), k2, k3)) else ((1, a - v, -(b - a), k2, k3)))) else (if ((a - d) * k3) < (k2 * (-(b - a))) then (if ((a - d) * k1) < (k0 * (-(b - a))) then ((0, k0, k1, a - d, -(b - a))) else ((1, k0, k1, a - d, -(b - a)))) else (if (k2 * k1) < (k0 * k3) then ((0, k0, k1, k2, k3)) else ((1, k0, k1, k2, k3))))))
theorem b_M_cut (a b d v k0 k1 k2 k3 : Int) (ha : zB (-15000) 15000 a) (hb : zB (-15000) 15000 b) (hd : zB (-100000) 100000 d) (hv : zB (-100000) 100000 v) (h0 : zB (-115000) 115000 k0) (h1 : zB (-115000) 115000 k1) (h2 : zB (-115000) 115000 k2) (h3 : zB (-115000) 115000 k3) : zB (-115000) 115000 (f_M_cut a b d v k0 k1 k2 k3).2.1 ∧ zB (-115000) 115000 (f_M_cut a b d v k0 k1 k2 k3).2.2.1 ∧ zB (-115000) 115000 (f_M_cut a b d v k0 k1 k2 k3).2.2.2.1 ∧ zB (-115000) 115000 (f_M_cut a b d v k0 k1 k2 k3).2.2.2.2 := by
  generalize hq : f_M_cut a b d v k0 k1 k2 k3 = r
  unfold f_M_cut at hq
  unfold zB at *
  repeat' split at hq
  all_goals (subst hq; refine ⟨?_, ?_, ?_, ?_⟩ <;> dsimp only <;> omega)
theorem bb_M_cut (a b d v k0 k1 k2 k3 : Int) : zB 0 1 (f_M_cut a b d v k0 k1 k2 k3).1 := by
  generalize hq : f_M_cut a b d v k0 k1 k2 k3 = r
  unfold f_M_cut at hq
  repeat' split at hq
  all_goals (subst hq; first | exact (⟨by decide, by decide⟩ : zB 0 1 0) | exact (⟨by decide, by decide⟩ : zB 0 1 1))
set_option maxHeartbeats 4000000 in
set_option maxRecDepth 100000 in
theorem k_M_cut (l : Launch) (dC : Nat → ClassId) (dI : Nat → Nat → Nat) (ad : Nat → Nat) (cI : ClassId) (N : Nat → Int → Int) (k0 k1 k2 k3 : Int) (hI : jN N) (hj : zJ 8 ad) (hb_k0 : zB (-115000) 115000 k0) (hb_k1 : zB (-115000) 115000 k1) (hb_k2 : zB (-115000) 115000 k2) (hb_k3 : zB (-115000) 115000 k3) (a b d v : Int) (hb_a : zB (-15000) 15000 a) (hb_b : zB (-15000) 15000 b) (hb_d : zB (-100000) 100000 d) (hb_v : zB (-100000) 100000 v) : Met l y_M_cut (Cond.code y_M_cut c_M_cut 13 (some .boolean) :: zT) { frames := 0, cells := 0, slots := 0, locals := 0 } (va_Pc ([.ref (ad 0), .int (zi a), .int (zi b), .int (zi d), .int (zi v)] : List Value) (zWM dC dI ad cI N k0 k1 k2 k3)) (zQ (some (.int (zi (f_M_cut a b d v k0 k1 k2 k3).1))) (fun H => va_P (dC, dI) classes (wM ad cI N (f_M_cut a b d v k0 k1 k2 k3).2.1 (f_M_cut a b d v k0 k1 k2 k3).2.2.1 (f_M_cut a b d v k0 k1 k2 k3).2.2.2.1 (f_M_cut a b d v k0 k1 k2 k3).2.2.2.2) H) (zAM ad)) 0 0 (zAM ad) := by
  refine zh (cc := c_M_cut) (C := R_M) (by decide) rfl rfl (Nat.le_of_ble_eq_true rfl) ?_
  intro p e s m below meth c ls hx hb hr hlocks hml hown hname hts hl hB
  have hw : ∀ w9 ∈ zT, w9.before ([.ref (ad 0), .int (zi a), .int (zi b), .int (zi d), .int (zi v)] : List Value).toArray s = true := fun w9 h => hts w9 (List.mem_cons_of_mem _ h)
  obtain ⟨hP, hK⟩ := hB
  obtain ⟨hn0, hn1⟩ := id (jN_s0 hI)
  have hD := zDM hj cI
  have hS : va_S (zAM ad) s.heap s.heap [] := va_S.rf
  obtain ⟨hz0, hz1⟩ := id (jN_s1 hI)
  obtain ⟨hl_a, hh_a⟩ := id hb_a
  obtain ⟨hl_b, hh_b⟩ := id hb_b
  obtain ⟨hl_d, hh_d⟩ := id hb_d
  obtain ⟨hl_v, hh_v⟩ := id hb_v
  generalize hq : f_M_cut a b d v k0 k1 k2 k3 = r
  unfold f_M_cut at hq
  replace hl : lv_has ls 13 [(0, .ref (ad 0)), (1, .int (zi a)), (2, .int (zi b)), (3, .int (zi d)), (4, .int (zi v))] := hl
  refine lv_iload_n hx hb d_M_cut_0 rfl (lv_at hl 2 rfl) ?_
  refine lv_iload_n hx hb d_M_cut_1 rfl (lv_at hl 1 rfl) ?_
  have b_1 : zB (-30000) 30000 (b - a) := zB.w (zb_sub hb_b hb_a) (by decide) (by decide)
  refine zr_isub hx hb d_M_cut_2 ?_
  refine zr_i2l hx hb (zB.I b_1 (by decide) (by decide)) d_M_cut_3 ?_
  refine lv_lstore (lv' := [(5, .long (zl (b - a))), (0, .ref (ad 0)), (1, .int (zi a)), (2, .int (zi b)), (3, .int (zi d)), (4, .int (zi v))]) hx hb d_M_cut_4 hl (by decide) rfl (fun ls hl => ?_)
  refine lv_lload hx hb d_M_cut_6 (lv_at hl 0 rfl) ?_
  refine lv_lconst (v := zl 0) hx hb d_M_cut_8 (by decide) ?_
  refine zr_lcmp_ne (tgt := 30) hx hb (zB.L b_1 (by decide) (by decide)) (zB.L (zb_c 0) (by decide) (by decide)) d_M_cut_9 d_M_cut_10 (by decide) (fun c_2 => ?_) (fun c_2 => ?_)
  · replace hq := (if_neg c_2).symm.trans hq
    refine lv_lload hx hb d_M_cut_30 (lv_at hl 0 rfl) ?_
    refine lv_lconst (v := zl 0) hx hb d_M_cut_32 (by decide) ?_
    refine zr_lcmp_le (tgt := 44) hx hb (zB.L b_1 (by decide) (by decide)) (zB.L (zb_c 0) (by decide) (by decide)) d_M_cut_33 d_M_cut_34 (by decide) (fun c_3 => ?_) (fun c_3 => ?_)
    · replace hq := (if_neg c_3).symm.trans hq
      have r_4 : zB (-30000) 0 (b - a) := ⟨b_1.1, (Int.not_lt.mp c_3)⟩
      refine lv_iload_n hx hb d_M_cut_44 rfl (lv_at hl 2 rfl) ?_
      refine lv_iload hx hb d_M_cut_45 (lv_at hl 5 rfl) ?_
      have b_5 : zB (-115000) 115000 (a - v) := zB.w (zb_sub hb_a hb_v) (by decide) (by decide)
      refine zr_isub hx hb d_M_cut_47 ?_
      refine zr_i2l hx hb (zB.I b_5 (by decide) (by decide)) d_M_cut_48 ?_
      refine lv_lstore (lv' := [(7, .long (zl (a - v))), (5, .long (zl (b - a))), (0, .ref (ad 0)), (1, .int (zi a)), (2, .int (zi b)), (3, .int (zi d)), (4, .int (zi v))]) hx hb d_M_cut_49 hl (by decide) rfl (fun ls hl => ?_)
      refine lv_lload hx hb d_M_cut_51 (lv_at hl 1 rfl) ?_
      refine lv_lconst (v := zl 0) hx hb d_M_cut_53 (by decide) ?_
      refine zr_lcmp_le (tgt := 66) hx hb (zB.L r_4 (by decide) (by decide)) (zB.L (zb_c 0) (by decide) (by decide)) d_M_cut_54 d_M_cut_55 (by decide) (fun _ => ?_) (fun c => absurd c c_3)
      refine lv_iload_n hx hb d_M_cut_66 rfl (lv_at hl 3 rfl) ?_
      refine lv_iload_n hx hb d_M_cut_67 rfl (lv_at hl 5 rfl) ?_
      have b_6 : zB (-115000) 115000 (a - d) := zB.w (zb_sub hb_a hb_d) (by decide) (by decide)
      refine zr_isub hx hb d_M_cut_68 ?_
      refine zr_i2l hx hb (zB.I b_6 (by decide) (by decide)) d_M_cut_69 ?_
      refine lv_lstore (lv' := [(9, .long (zl (a - d))), (7, .long (zl (a - v))), (5, .long (zl (b - a))), (0, .ref (ad 0)), (1, .int (zi a)), (2, .int (zi b)), (3, .int (zi d)), (4, .int (zi v))]) hx hb d_M_cut_70 hl (by decide) rfl (fun ls hl => ?_)
      refine lv_lload hx hb d_M_cut_72 (lv_at hl 2 rfl) ?_
      refine lv_lconst (v := zl 0) hx hb d_M_cut_74 (by decide) ?_
      refine zr_lcmp_le (tgt := 84) hx hb (zB.L r_4 (by decide) (by decide)) (zB.L (zb_c 0) (by decide) (by decide)) d_M_cut_75 d_M_cut_76 (by decide) (fun _ => ?_) (fun c => absurd c c_3)
      refine lv_lload hx hb d_M_cut_84 (lv_at hl 2 rfl) ?_
      have b_7 : zB 0 30000 (-(b - a)) := zB.w (zb_neg r_4) (by decide) (by decide)
      refine zr_lneg hx hb d_M_cut_86 ?_
      refine lv_lstore (lv' := [(11, .long (zl (-(b - a)))), (9, .long (zl (a - d))), (7, .long (zl (a - v))), (5, .long (zl (b - a))), (0, .ref (ad 0)), (1, .int (zi a)), (2, .int (zi b)), (3, .int (zi d)), (4, .int (zi v))]) hx hb d_M_cut_87 hl (by decide) rfl (fun ls hl => ?_)
      refine lv_lload hx hb d_M_cut_89 (lv_at hl 2 rfl) ?_
      refine lv_aload_n hx hb d_M_cut_91 rfl (lv_at hl 4 rfl) ?_
      refine va_get (D := (dC, dI)) (ci := 2) (v := .long (zl k1)) (C := R_M) (T := T_M) (N := 17) hx hb hw i_M hown hK hP 0 rfl rfl 14 (by decide) (hw _ m_240) (fun _ h9 => h9) rfl d_M_cut_92 ?_
      have b_8 : zB (-13225000000) 13225000000 ((a - v) * k1) := zB.w (zb_mul (A := 115000) (B := 115000) (zB.w b_5 (by decide) (by decide)) (zB.w hb_k1 (by decide) (by decide))) (by decide) (by decide)
      refine zr_lmul hx hb d_M_cut_95 ?_
      refine lv_aload_n hx hb d_M_cut_96 rfl (lv_at hl 4 rfl) ?_
      refine va_get (D := (dC, dI)) (ci := 2) (v := .long (zl k0)) (C := R_M) (T := T_M) (N := 17) hx hb hw i_M hown hK hP 0 rfl rfl 13 (by decide) (hw _ m_239) (fun _ h9 => h9) rfl d_M_cut_97 ?_
      refine lv_lload hx hb d_M_cut_100 (lv_at hl 0 rfl) ?_
      have b_9 : zB (-3450000000) 3450000000 (k0 * (-(b - a))) := zB.w (zb_mul (A := 115000) (B := 30000) (zB.w hb_k0 (by decide) (by decide)) (zB.w b_7 (by decide) (by decide))) (by decide) (by decide)
      refine zr_lmul hx hb d_M_cut_102 ?_
      refine zr_lcmp_le (tgt := 119) hx hb (zB.L b_8 (by decide) (by decide)) (zB.L b_9 (by decide) (by decide)) d_M_cut_103 d_M_cut_104 (by decide) (fun c_10 => ?_) (fun c_10 => ?_)
      · replace hq := (if_neg c_10).symm.trans hq
        refine lv_lload hx hb d_M_cut_119 (lv_at hl 1 rfl) ?_
        refine lv_aload_n hx hb d_M_cut_121 rfl (lv_at hl 4 rfl) ?_
        refine va_get (D := (dC, dI)) (ci := 2) (v := .long (zl k3)) (C := R_M) (T := T_M) (N := 17) hx hb hw i_M hown hK hP 0 rfl rfl 16 (by decide) (hw _ m_242) (fun _ h9 => h9) rfl d_M_cut_122 ?_
        have b_11 : zB (-13225000000) 13225000000 ((a - d) * k3) := zB.w (zb_mul (A := 115000) (B := 115000) (zB.w b_6 (by decide) (by decide)) (zB.w hb_k3 (by decide) (by decide))) (by decide) (by decide)
        refine zr_lmul hx hb d_M_cut_125 ?_
        refine lv_aload_n hx hb d_M_cut_126 rfl (lv_at hl 4 rfl) ?_
        refine va_get (D := (dC, dI)) (ci := 2) (v := .long (zl k2)) (C := R_M) (T := T_M) (N := 17) hx hb hw i_M hown hK hP 0 rfl rfl 15 (by decide) (hw _ m_241) (fun _ h9 => h9) rfl d_M_cut_127 ?_
        refine lv_lload hx hb d_M_cut_130 (lv_at hl 0 rfl) ?_
        have b_12 : zB (-3450000000) 3450000000 (k2 * (-(b - a))) := zB.w (zb_mul (A := 115000) (B := 30000) (zB.w hb_k2 (by decide) (by decide)) (zB.w b_7 (by decide) (by decide))) (by decide) (by decide)
        refine zr_lmul hx hb d_M_cut_132 ?_
        refine zr_lcmp_ge (tgt := 149) hx hb (zB.L b_11 (by decide) (by decide)) (zB.L b_12 (by decide) (by decide)) d_M_cut_133 d_M_cut_134 (by decide) (fun c_13 => ?_) (fun c_13 => ?_)
        · replace hq := (if_neg c_13).symm.trans hq
          refine lv_aload_n hx hb d_M_cut_149 rfl (lv_at hl 4 rfl) ?_
          refine va_get (D := (dC, dI)) (ci := 2) (v := .long (zl k0)) (C := R_M) (T := T_M) (N := 17) hx hb hw i_M hown hK hP 0 rfl rfl 13 (by decide) (hw _ m_239) (fun _ h9 => h9) rfl d_M_cut_150 ?_
          refine lv_aload_n hx hb d_M_cut_153 rfl (lv_at hl 4 rfl) ?_
          refine va_get (D := (dC, dI)) (ci := 2) (v := .long (zl k3)) (C := R_M) (T := T_M) (N := 17) hx hb hw i_M hown hK hP 0 rfl rfl 16 (by decide) (hw _ m_242) (fun _ h9 => h9) rfl d_M_cut_154 ?_
          have b_14 : zB (-13225000000) 13225000000 (k0 * k3) := zB.w (zb_mul (A := 115000) (B := 115000) (zB.w hb_k0 (by decide) (by decide)) (zB.w hb_k3 (by decide) (by decide))) (by decide) (by decide)
          refine zr_lmul hx hb d_M_cut_157 ?_
          refine lv_aload_n hx hb d_M_cut_158 rfl (lv_at hl 4 rfl) ?_
          refine va_get (D := (dC, dI)) (ci := 2) (v := .long (zl k2)) (C := R_M) (T := T_M) (N := 17) hx hb hw i_M hown hK hP 0 rfl rfl 15 (by decide) (hw _ m_241) (fun _ h9 => h9) rfl d_M_cut_159 ?_
          refine lv_aload_n hx hb d_M_cut_162 rfl (lv_at hl 4 rfl) ?_
          refine va_get (D := (dC, dI)) (ci := 2) (v := .long (zl k1)) (C := R_M) (T := T_M) (N := 17) hx hb hw i_M hown hK hP 0 rfl rfl 14 (by decide) (hw _ m_240) (fun _ h9 => h9) rfl d_M_cut_163 ?_
          have b_15 : zB (-13225000000) 13225000000 (k2 * k1) := zB.w (zb_mul (A := 115000) (B := 115000) (zB.w hb_k2 (by decide) (by decide)) (zB.w hb_k1 (by decide) (by decide))) (by decide) (by decide)
          refine zr_lmul hx hb d_M_cut_166 ?_
          refine zr_lcmp_gt (tgt := 175) hx hb (zB.L b_14 (by decide) (by decide)) (zB.L b_15 (by decide) (by decide)) d_M_cut_167 d_M_cut_168 (by decide) (fun c_16 => ?_) (fun c_16 => ?_)
          · replace hq := (if_pos c_16).symm.trans hq
            refine lv_iconst (v := zi 0) hx hb d_M_cut_175 rfl ?_
            subst hq
            exact zw_z hx hb hr hlocks (zB.w (zb_c 0) (by decide) (by decide)) rfl hP hS d_M_cut_176
          · replace hq := (if_neg c_16).symm.trans hq
            refine lv_iconst (v := zi 1) hx hb d_M_cut_171 rfl ?_
            refine lv_goto (tgt := 176) hx hb d_M_cut_172 (by decide) ?_
            subst hq
            exact zw_z hx hb hr hlocks (zB.w (zb_c 1) (by decide) (by decide)) rfl hP hS d_M_cut_176
        · replace hq := (if_pos c_13).symm.trans hq
          refine lv_aload_n hx hb d_M_cut_137 rfl (lv_at hl 4 rfl) ?_
          refine lv_lload hx hb d_M_cut_138 (lv_at hl 1 rfl) ?_
          refine va_put (D := (dC, dI)) (ci := 2) (v := .long (zl (a - d))) (ty := .long) (C := R_M) (T := T_M) (N := 17) hx hb hw i_M t_M ty_M nm_M hown hK hP (hD _ _ _ _ _) hS 0 rfl rfl 15 (by decide) (hw _ m_241) (fun _ h9 => h9) rfl (by decide +kernel) rfl rfl (Nat.le_of_ble_eq_true rfl) d_M_cut_140 (fun H locs hP _ hS => ?_)
          replace hP : va_P (dC, dI) classes (wM ad cI N k0 k1 (a - d) k3) H := hP
          refine lv_aload_n hx hb d_M_cut_143 rfl (lv_at hl 4 rfl) ?_
          refine lv_lload hx hb d_M_cut_144 (lv_at hl 0 rfl) ?_
          refine va_put (D := (dC, dI)) (ci := 2) (v := .long (zl (-(b - a)))) (ty := .long) (C := R_M) (T := T_M) (N := 17) hx hb hw i_M t_M ty_M nm_M hown hK hP (hD _ _ _ _ _) hS 0 rfl rfl 16 (by decide) (hw _ m_242) (fun _ h9 => h9) rfl (by decide +kernel) rfl rfl (Nat.le_of_ble_eq_true rfl) d_M_cut_146 (fun H locs hP _ hS => ?_)
          replace hP : va_P (dC, dI) classes (wM ad cI N k0 k1 (a - d) (-(b - a))) H := hP
          refine lv_aload_n hx hb d_M_cut_149 rfl (lv_at hl 4 rfl) ?_
          refine va_get (D := (dC, dI)) (ci := 2) (v := .long (zl k0)) (C := R_M) (T := T_M) (N := 17) hx hb hw i_M hown hK hP 0 rfl rfl 13 (by decide) (hw _ m_239) (fun _ h9 => h9) rfl d_M_cut_150 ?_
          refine lv_aload_n hx hb d_M_cut_153 rfl (lv_at hl 4 rfl) ?_
          refine va_get (D := (dC, dI)) (ci := 2) (v := .long (zl (-(b - a)))) (C := R_M) (T := T_M) (N := 17) hx hb hw i_M hown hK hP 0 rfl rfl 16 (by decide) (hw _ m_242) (fun _ h9 => h9) rfl d_M_cut_154 ?_
          refine zr_lmul hx hb d_M_cut_157 ?_
          refine lv_aload_n hx hb d_M_cut_158 rfl (lv_at hl 4 rfl) ?_
          refine va_get (D := (dC, dI)) (ci := 2) (v := .long (zl (a - d))) (C := R_M) (T := T_M) (N := 17) hx hb hw i_M hown hK hP 0 rfl rfl 15 (by decide) (hw _ m_241) (fun _ h9 => h9) rfl d_M_cut_159 ?_
          refine lv_aload_n hx hb d_M_cut_162 rfl (lv_at hl 4 rfl) ?_
          refine va_get (D := (dC, dI)) (ci := 2) (v := .long (zl k1)) (C := R_M) (T := T_M) (N := 17) hx hb hw i_M hown hK hP 0 rfl rfl 14 (by decide) (hw _ m_240) (fun _ h9 => h9) rfl d_M_cut_163 ?_
          have b_17 : zB (-13225000000) 13225000000 ((a - d) * k1) := zB.w (zb_mul (A := 115000) (B := 115000) (zB.w b_6 (by decide) (by decide)) (zB.w hb_k1 (by decide) (by decide))) (by decide) (by decide)
          refine zr_lmul hx hb d_M_cut_166 ?_
          refine zr_lcmp_gt (tgt := 175) hx hb (zB.L b_9 (by decide) (by decide)) (zB.L b_17 (by decide) (by decide)) d_M_cut_167 d_M_cut_168 (by decide) (fun c_18 => ?_) (fun c_18 => ?_)
          · replace hq := (if_pos c_18).symm.trans hq
            refine lv_iconst (v := zi 0) hx hb d_M_cut_175 rfl ?_
            subst hq
            exact zw_z hx hb hr hlocks (zB.w (zb_c 0) (by decide) (by decide)) rfl hP hS d_M_cut_176
          · replace hq := (if_neg c_18).symm.trans hq
            refine lv_iconst (v := zi 1) hx hb d_M_cut_171 rfl ?_
            refine lv_goto (tgt := 176) hx hb d_M_cut_172 (by decide) ?_
            subst hq
            exact zw_z hx hb hr hlocks (zB.w (zb_c 1) (by decide) (by decide)) rfl hP hS d_M_cut_176
      · replace hq := (if_pos c_10).symm.trans hq
        refine lv_aload_n hx hb d_M_cut_107 rfl (lv_at hl 4 rfl) ?_
        refine lv_lload hx hb d_M_cut_108 (lv_at hl 2 rfl) ?_
        refine va_put (D := (dC, dI)) (ci := 2) (v := .long (zl (a - v))) (ty := .long) (C := R_M) (T := T_M) (N := 17) hx hb hw i_M t_M ty_M nm_M hown hK hP (hD _ _ _ _ _) hS 0 rfl rfl 13 (by decide) (hw _ m_239) (fun _ h9 => h9) rfl (by decide +kernel) rfl rfl (Nat.le_of_ble_eq_true rfl) d_M_cut_110 (fun H locs hP _ hS => ?_)
        replace hP : va_P (dC, dI) classes (wM ad cI N (a - v) k1 k2 k3) H := hP
        refine lv_aload_n hx hb d_M_cut_113 rfl (lv_at hl 4 rfl) ?_
        refine lv_lload hx hb d_M_cut_114 (lv_at hl 0 rfl) ?_
        refine va_put (D := (dC, dI)) (ci := 2) (v := .long (zl (-(b - a)))) (ty := .long) (C := R_M) (T := T_M) (N := 17) hx hb hw i_M t_M ty_M nm_M hown hK hP (hD _ _ _ _ _) hS 0 rfl rfl 14 (by decide) (hw _ m_240) (fun _ h9 => h9) rfl (by decide +kernel) rfl rfl (Nat.le_of_ble_eq_true rfl) d_M_cut_116 (fun H locs hP _ hS => ?_)
        replace hP : va_P (dC, dI) classes (wM ad cI N (a - v) (-(b - a)) k2 k3) H := hP
        refine lv_lload hx hb d_M_cut_119 (lv_at hl 1 rfl) ?_
        refine lv_aload_n hx hb d_M_cut_121 rfl (lv_at hl 4 rfl) ?_
        refine va_get (D := (dC, dI)) (ci := 2) (v := .long (zl k3)) (C := R_M) (T := T_M) (N := 17) hx hb hw i_M hown hK hP 0 rfl rfl 16 (by decide) (hw _ m_242) (fun _ h9 => h9) rfl d_M_cut_122 ?_
        have b_19 : zB (-13225000000) 13225000000 ((a - d) * k3) := zB.w (zb_mul (A := 115000) (B := 115000) (zB.w b_6 (by decide) (by decide)) (zB.w hb_k3 (by decide) (by decide))) (by decide) (by decide)
        refine zr_lmul hx hb d_M_cut_125 ?_
        refine lv_aload_n hx hb d_M_cut_126 rfl (lv_at hl 4 rfl) ?_
        refine va_get (D := (dC, dI)) (ci := 2) (v := .long (zl k2)) (C := R_M) (T := T_M) (N := 17) hx hb hw i_M hown hK hP 0 rfl rfl 15 (by decide) (hw _ m_241) (fun _ h9 => h9) rfl d_M_cut_127 ?_
        refine lv_lload hx hb d_M_cut_130 (lv_at hl 0 rfl) ?_
        have b_20 : zB (-3450000000) 3450000000 (k2 * (-(b - a))) := zB.w (zb_mul (A := 115000) (B := 30000) (zB.w hb_k2 (by decide) (by decide)) (zB.w b_7 (by decide) (by decide))) (by decide) (by decide)
        refine zr_lmul hx hb d_M_cut_132 ?_
        refine zr_lcmp_ge (tgt := 149) hx hb (zB.L b_19 (by decide) (by decide)) (zB.L b_20 (by decide) (by decide)) d_M_cut_133 d_M_cut_134 (by decide) (fun c_21 => ?_) (fun c_21 => ?_)
        · replace hq := (if_neg c_21).symm.trans hq
          refine lv_aload_n hx hb d_M_cut_149 rfl (lv_at hl 4 rfl) ?_
          refine va_get (D := (dC, dI)) (ci := 2) (v := .long (zl (a - v))) (C := R_M) (T := T_M) (N := 17) hx hb hw i_M hown hK hP 0 rfl rfl 13 (by decide) (hw _ m_239) (fun _ h9 => h9) rfl d_M_cut_150 ?_
          refine lv_aload_n hx hb d_M_cut_153 rfl (lv_at hl 4 rfl) ?_
          refine va_get (D := (dC, dI)) (ci := 2) (v := .long (zl k3)) (C := R_M) (T := T_M) (N := 17) hx hb hw i_M hown hK hP 0 rfl rfl 16 (by decide) (hw _ m_242) (fun _ h9 => h9) rfl d_M_cut_154 ?_
          have b_22 : zB (-13225000000) 13225000000 ((a - v) * k3) := zB.w (zb_mul (A := 115000) (B := 115000) (zB.w b_5 (by decide) (by decide)) (zB.w hb_k3 (by decide) (by decide))) (by decide) (by decide)
          refine zr_lmul hx hb d_M_cut_157 ?_
          refine lv_aload_n hx hb d_M_cut_158 rfl (lv_at hl 4 rfl) ?_
          refine va_get (D := (dC, dI)) (ci := 2) (v := .long (zl k2)) (C := R_M) (T := T_M) (N := 17) hx hb hw i_M hown hK hP 0 rfl rfl 15 (by decide) (hw _ m_241) (fun _ h9 => h9) rfl d_M_cut_159 ?_
          refine lv_aload_n hx hb d_M_cut_162 rfl (lv_at hl 4 rfl) ?_
          refine va_get (D := (dC, dI)) (ci := 2) (v := .long (zl (-(b - a)))) (C := R_M) (T := T_M) (N := 17) hx hb hw i_M hown hK hP 0 rfl rfl 14 (by decide) (hw _ m_240) (fun _ h9 => h9) rfl d_M_cut_163 ?_
          refine zr_lmul hx hb d_M_cut_166 ?_
          refine zr_lcmp_gt (tgt := 175) hx hb (zB.L b_22 (by decide) (by decide)) (zB.L b_20 (by decide) (by decide)) d_M_cut_167 d_M_cut_168 (by decide) (fun c_23 => ?_) (fun c_23 => ?_)
          · replace hq := (if_pos c_23).symm.trans hq
            refine lv_iconst (v := zi 0) hx hb d_M_cut_175 rfl ?_
            subst hq
            exact zw_z hx hb hr hlocks (zB.w (zb_c 0) (by decide) (by decide)) rfl hP hS d_M_cut_176
          · replace hq := (if_neg c_23).symm.trans hq
            refine lv_iconst (v := zi 1) hx hb d_M_cut_171 rfl ?_
            refine lv_goto (tgt := 176) hx hb d_M_cut_172 (by decide) ?_
            subst hq
            exact zw_z hx hb hr hlocks (zB.w (zb_c 1) (by decide) (by decide)) rfl hP hS d_M_cut_176
        · replace hq := (if_pos c_21).symm.trans hq
          refine lv_aload_n hx hb d_M_cut_137 rfl (lv_at hl 4 rfl) ?_
          refine lv_lload hx hb d_M_cut_138 (lv_at hl 1 rfl) ?_
          refine va_put (D := (dC, dI)) (ci := 2) (v := .long (zl (a - d))) (ty := .long) (C := R_M) (T := T_M) (N := 17) hx hb hw i_M t_M ty_M nm_M hown hK hP (hD _ _ _ _ _) hS 0 rfl rfl 15 (by decide) (hw _ m_241) (fun _ h9 => h9) rfl (by decide +kernel) rfl rfl (Nat.le_of_ble_eq_true rfl) d_M_cut_140 (fun H locs hP _ hS => ?_)
          replace hP : va_P (dC, dI) classes (wM ad cI N (a - v) (-(b - a)) (a - d) k3) H := hP
          refine lv_aload_n hx hb d_M_cut_143 rfl (lv_at hl 4 rfl) ?_
          refine lv_lload hx hb d_M_cut_144 (lv_at hl 0 rfl) ?_
          refine va_put (D := (dC, dI)) (ci := 2) (v := .long (zl (-(b - a)))) (ty := .long) (C := R_M) (T := T_M) (N := 17) hx hb hw i_M t_M ty_M nm_M hown hK hP (hD _ _ _ _ _) hS 0 rfl rfl 16 (by decide) (hw _ m_242) (fun _ h9 => h9) rfl (by decide +kernel) rfl rfl (Nat.le_of_ble_eq_true rfl) d_M_cut_146 (fun H locs hP _ hS => ?_)
          replace hP : va_P (dC, dI) classes (wM ad cI N (a - v) (-(b - a)) (a - d) (-(b - a))) H := hP
          refine lv_aload_n hx hb d_M_cut_149 rfl (lv_at hl 4 rfl) ?_
          refine va_get (D := (dC, dI)) (ci := 2) (v := .long (zl (a - v))) (C := R_M) (T := T_M) (N := 17) hx hb hw i_M hown hK hP 0 rfl rfl 13 (by decide) (hw _ m_239) (fun _ h9 => h9) rfl d_M_cut_150 ?_
          refine lv_aload_n hx hb d_M_cut_153 rfl (lv_at hl 4 rfl) ?_
          refine va_get (D := (dC, dI)) (ci := 2) (v := .long (zl (-(b - a)))) (C := R_M) (T := T_M) (N := 17) hx hb hw i_M hown hK hP 0 rfl rfl 16 (by decide) (hw _ m_242) (fun _ h9 => h9) rfl d_M_cut_154 ?_
          have b_24 : zB (-3450000000) 3450000000 ((a - v) * (-(b - a))) := zB.w (zb_mul (A := 115000) (B := 30000) (zB.w b_5 (by decide) (by decide)) (zB.w b_7 (by decide) (by decide))) (by decide) (by decide)
          refine zr_lmul hx hb d_M_cut_157 ?_
          refine lv_aload_n hx hb d_M_cut_158 rfl (lv_at hl 4 rfl) ?_
          refine va_get (D := (dC, dI)) (ci := 2) (v := .long (zl (a - d))) (C := R_M) (T := T_M) (N := 17) hx hb hw i_M hown hK hP 0 rfl rfl 15 (by decide) (hw _ m_241) (fun _ h9 => h9) rfl d_M_cut_159 ?_
          refine lv_aload_n hx hb d_M_cut_162 rfl (lv_at hl 4 rfl) ?_
          refine va_get (D := (dC, dI)) (ci := 2) (v := .long (zl (-(b - a)))) (C := R_M) (T := T_M) (N := 17) hx hb hw i_M hown hK hP 0 rfl rfl 14 (by decide) (hw _ m_240) (fun _ h9 => h9) rfl d_M_cut_163 ?_
          have b_25 : zB (-3450000000) 3450000000 ((a - d) * (-(b - a))) := zB.w (zb_mul (A := 115000) (B := 30000) (zB.w b_6 (by decide) (by decide)) (zB.w b_7 (by decide) (by decide))) (by decide) (by decide)
          refine zr_lmul hx hb d_M_cut_166 ?_
          refine zr_lcmp_gt (tgt := 175) hx hb (zB.L b_24 (by decide) (by decide)) (zB.L b_25 (by decide) (by decide)) d_M_cut_167 d_M_cut_168 (by decide) (fun c_26 => ?_) (fun c_26 => ?_)
          · replace hq := (if_pos c_26).symm.trans hq
            refine lv_iconst (v := zi 0) hx hb d_M_cut_175 rfl ?_
            subst hq
            exact zw_z hx hb hr hlocks (zB.w (zb_c 0) (by decide) (by decide)) rfl hP hS d_M_cut_176
          · replace hq := (if_neg c_26).symm.trans hq
            refine lv_iconst (v := zi 1) hx hb d_M_cut_171 rfl ?_
            refine lv_goto (tgt := 176) hx hb d_M_cut_172 (by decide) ?_
            subst hq
            exact zw_z hx hb hr hlocks (zB.w (zb_c 1) (by decide) (by decide)) rfl hP hS d_M_cut_176
    · replace hq := (if_pos c_3).symm.trans hq
      have r_27 : zB 1 30000 (b - a) := ⟨(Int.add_one_le_of_lt c_3), b_1.2⟩
      refine lv_iload_n hx hb d_M_cut_37 rfl (lv_at hl 4 rfl) ?_
      refine lv_iload_n hx hb d_M_cut_38 rfl (lv_at hl 2 rfl) ?_
      have b_28 : zB (-115000) 115000 (d - a) := zB.w (zb_sub hb_d hb_a) (by decide) (by decide)
      refine zr_isub hx hb d_M_cut_39 ?_
      refine zr_i2l hx hb (zB.I b_28 (by decide) (by decide)) d_M_cut_40 ?_
      refine lv_goto (tgt := 49) hx hb d_M_cut_41 (by decide) ?_
      refine lv_lstore (lv' := [(7, .long (zl (d - a))), (5, .long (zl (b - a))), (0, .ref (ad 0)), (1, .int (zi a)), (2, .int (zi b)), (3, .int (zi d)), (4, .int (zi v))]) hx hb d_M_cut_49 hl (by decide) rfl (fun ls hl => ?_)
      refine lv_lload hx hb d_M_cut_51 (lv_at hl 1 rfl) ?_
      refine lv_lconst (v := zl 0) hx hb d_M_cut_53 (by decide) ?_
      refine zr_lcmp_le (tgt := 66) hx hb (zB.L r_27 (by decide) (by decide)) (zB.L (zb_c 0) (by decide) (by decide)) d_M_cut_54 d_M_cut_55 (by decide) (fun c => absurd c_3 c) (fun _ => ?_)
      refine lv_iload hx hb d_M_cut_58 (lv_at hl 6 rfl) ?_
      refine lv_iload_n hx hb d_M_cut_60 rfl (lv_at hl 3 rfl) ?_
      have b_29 : zB (-115000) 115000 (v - a) := zB.w (zb_sub hb_v hb_a) (by decide) (by decide)
      refine zr_isub hx hb d_M_cut_61 ?_
      refine zr_i2l hx hb (zB.I b_29 (by decide) (by decide)) d_M_cut_62 ?_
      refine lv_goto (tgt := 70) hx hb d_M_cut_63 (by decide) ?_
      refine lv_lstore (lv' := [(9, .long (zl (v - a))), (7, .long (zl (d - a))), (5, .long (zl (b - a))), (0, .ref (ad 0)), (1, .int (zi a)), (2, .int (zi b)), (3, .int (zi d)), (4, .int (zi v))]) hx hb d_M_cut_70 hl (by decide) rfl (fun ls hl => ?_)
      refine lv_lload hx hb d_M_cut_72 (lv_at hl 2 rfl) ?_
      refine lv_lconst (v := zl 0) hx hb d_M_cut_74 (by decide) ?_
      refine zr_lcmp_le (tgt := 84) hx hb (zB.L r_27 (by decide) (by decide)) (zB.L (zb_c 0) (by decide) (by decide)) d_M_cut_75 d_M_cut_76 (by decide) (fun c => absurd c_3 c) (fun _ => ?_)
      refine lv_lload hx hb d_M_cut_79 (lv_at hl 2 rfl) ?_
      refine lv_goto (tgt := 87) hx hb d_M_cut_81 (by decide) ?_
      refine lv_lstore (lv' := [(11, .long (zl (b - a))), (9, .long (zl (v - a))), (7, .long (zl (d - a))), (5, .long (zl (b - a))), (0, .ref (ad 0)), (1, .int (zi a)), (2, .int (zi b)), (3, .int (zi d)), (4, .int (zi v))]) hx hb d_M_cut_87 hl (by decide) rfl (fun ls hl => ?_)
      refine lv_lload hx hb d_M_cut_89 (lv_at hl 2 rfl) ?_
      refine lv_aload_n hx hb d_M_cut_91 rfl (lv_at hl 4 rfl) ?_
      refine va_get (D := (dC, dI)) (ci := 2) (v := .long (zl k1)) (C := R_M) (T := T_M) (N := 17) hx hb hw i_M hown hK hP 0 rfl rfl 14 (by decide) (hw _ m_240) (fun _ h9 => h9) rfl d_M_cut_92 ?_
      have b_30 : zB (-13225000000) 13225000000 ((d - a) * k1) := zB.w (zb_mul (A := 115000) (B := 115000) (zB.w b_28 (by decide) (by decide)) (zB.w hb_k1 (by decide) (by decide))) (by decide) (by decide)
      refine zr_lmul hx hb d_M_cut_95 ?_
      refine lv_aload_n hx hb d_M_cut_96 rfl (lv_at hl 4 rfl) ?_
      refine va_get (D := (dC, dI)) (ci := 2) (v := .long (zl k0)) (C := R_M) (T := T_M) (N := 17) hx hb hw i_M hown hK hP 0 rfl rfl 13 (by decide) (hw _ m_239) (fun _ h9 => h9) rfl d_M_cut_97 ?_
      refine lv_lload hx hb d_M_cut_100 (lv_at hl 0 rfl) ?_
      have b_31 : zB (-3450000000) 3450000000 (k0 * (b - a)) := zB.w (zb_mul (A := 115000) (B := 30000) (zB.w hb_k0 (by decide) (by decide)) (zB.w r_27 (by decide) (by decide))) (by decide) (by decide)
      refine zr_lmul hx hb d_M_cut_102 ?_
      refine zr_lcmp_le (tgt := 119) hx hb (zB.L b_30 (by decide) (by decide)) (zB.L b_31 (by decide) (by decide)) d_M_cut_103 d_M_cut_104 (by decide) (fun c_32 => ?_) (fun c_32 => ?_)
      · replace hq := (if_neg c_32).symm.trans hq
        refine lv_lload hx hb d_M_cut_119 (lv_at hl 1 rfl) ?_
        refine lv_aload_n hx hb d_M_cut_121 rfl (lv_at hl 4 rfl) ?_
        refine va_get (D := (dC, dI)) (ci := 2) (v := .long (zl k3)) (C := R_M) (T := T_M) (N := 17) hx hb hw i_M hown hK hP 0 rfl rfl 16 (by decide) (hw _ m_242) (fun _ h9 => h9) rfl d_M_cut_122 ?_
        have b_33 : zB (-13225000000) 13225000000 ((v - a) * k3) := zB.w (zb_mul (A := 115000) (B := 115000) (zB.w b_29 (by decide) (by decide)) (zB.w hb_k3 (by decide) (by decide))) (by decide) (by decide)
        refine zr_lmul hx hb d_M_cut_125 ?_
        refine lv_aload_n hx hb d_M_cut_126 rfl (lv_at hl 4 rfl) ?_
        refine va_get (D := (dC, dI)) (ci := 2) (v := .long (zl k2)) (C := R_M) (T := T_M) (N := 17) hx hb hw i_M hown hK hP 0 rfl rfl 15 (by decide) (hw _ m_241) (fun _ h9 => h9) rfl d_M_cut_127 ?_
        refine lv_lload hx hb d_M_cut_130 (lv_at hl 0 rfl) ?_
        have b_34 : zB (-3450000000) 3450000000 (k2 * (b - a)) := zB.w (zb_mul (A := 115000) (B := 30000) (zB.w hb_k2 (by decide) (by decide)) (zB.w r_27 (by decide) (by decide))) (by decide) (by decide)
        refine zr_lmul hx hb d_M_cut_132 ?_
        refine zr_lcmp_ge (tgt := 149) hx hb (zB.L b_33 (by decide) (by decide)) (zB.L b_34 (by decide) (by decide)) d_M_cut_133 d_M_cut_134 (by decide) (fun c_35 => ?_) (fun c_35 => ?_)
        · replace hq := (if_neg c_35).symm.trans hq
          refine lv_aload_n hx hb d_M_cut_149 rfl (lv_at hl 4 rfl) ?_
          refine va_get (D := (dC, dI)) (ci := 2) (v := .long (zl k0)) (C := R_M) (T := T_M) (N := 17) hx hb hw i_M hown hK hP 0 rfl rfl 13 (by decide) (hw _ m_239) (fun _ h9 => h9) rfl d_M_cut_150 ?_
          refine lv_aload_n hx hb d_M_cut_153 rfl (lv_at hl 4 rfl) ?_
          refine va_get (D := (dC, dI)) (ci := 2) (v := .long (zl k3)) (C := R_M) (T := T_M) (N := 17) hx hb hw i_M hown hK hP 0 rfl rfl 16 (by decide) (hw _ m_242) (fun _ h9 => h9) rfl d_M_cut_154 ?_
          have b_36 : zB (-13225000000) 13225000000 (k0 * k3) := zB.w (zb_mul (A := 115000) (B := 115000) (zB.w hb_k0 (by decide) (by decide)) (zB.w hb_k3 (by decide) (by decide))) (by decide) (by decide)
          refine zr_lmul hx hb d_M_cut_157 ?_
          refine lv_aload_n hx hb d_M_cut_158 rfl (lv_at hl 4 rfl) ?_
          refine va_get (D := (dC, dI)) (ci := 2) (v := .long (zl k2)) (C := R_M) (T := T_M) (N := 17) hx hb hw i_M hown hK hP 0 rfl rfl 15 (by decide) (hw _ m_241) (fun _ h9 => h9) rfl d_M_cut_159 ?_
          refine lv_aload_n hx hb d_M_cut_162 rfl (lv_at hl 4 rfl) ?_
          refine va_get (D := (dC, dI)) (ci := 2) (v := .long (zl k1)) (C := R_M) (T := T_M) (N := 17) hx hb hw i_M hown hK hP 0 rfl rfl 14 (by decide) (hw _ m_240) (fun _ h9 => h9) rfl d_M_cut_163 ?_
          have b_37 : zB (-13225000000) 13225000000 (k2 * k1) := zB.w (zb_mul (A := 115000) (B := 115000) (zB.w hb_k2 (by decide) (by decide)) (zB.w hb_k1 (by decide) (by decide))) (by decide) (by decide)
          refine zr_lmul hx hb d_M_cut_166 ?_
          refine zr_lcmp_gt (tgt := 175) hx hb (zB.L b_36 (by decide) (by decide)) (zB.L b_37 (by decide) (by decide)) d_M_cut_167 d_M_cut_168 (by decide) (fun c_38 => ?_) (fun c_38 => ?_)
          · replace hq := (if_pos c_38).symm.trans hq
            refine lv_iconst (v := zi 0) hx hb d_M_cut_175 rfl ?_
            subst hq
            exact zw_z hx hb hr hlocks (zB.w (zb_c 0) (by decide) (by decide)) rfl hP hS d_M_cut_176
          · replace hq := (if_neg c_38).symm.trans hq
            refine lv_iconst (v := zi 1) hx hb d_M_cut_171 rfl ?_
            refine lv_goto (tgt := 176) hx hb d_M_cut_172 (by decide) ?_
            subst hq
            exact zw_z hx hb hr hlocks (zB.w (zb_c 1) (by decide) (by decide)) rfl hP hS d_M_cut_176
        · replace hq := (if_pos c_35).symm.trans hq
          refine lv_aload_n hx hb d_M_cut_137 rfl (lv_at hl 4 rfl) ?_
          refine lv_lload hx hb d_M_cut_138 (lv_at hl 1 rfl) ?_
          refine va_put (D := (dC, dI)) (ci := 2) (v := .long (zl (v - a))) (ty := .long) (C := R_M) (T := T_M) (N := 17) hx hb hw i_M t_M ty_M nm_M hown hK hP (hD _ _ _ _ _) hS 0 rfl rfl 15 (by decide) (hw _ m_241) (fun _ h9 => h9) rfl (by decide +kernel) rfl rfl (Nat.le_of_ble_eq_true rfl) d_M_cut_140 (fun H locs hP _ hS => ?_)
          replace hP : va_P (dC, dI) classes (wM ad cI N k0 k1 (v - a) k3) H := hP
          refine lv_aload_n hx hb d_M_cut_143 rfl (lv_at hl 4 rfl) ?_
          refine lv_lload hx hb d_M_cut_144 (lv_at hl 0 rfl) ?_
          refine va_put (D := (dC, dI)) (ci := 2) (v := .long (zl (b - a))) (ty := .long) (C := R_M) (T := T_M) (N := 17) hx hb hw i_M t_M ty_M nm_M hown hK hP (hD _ _ _ _ _) hS 0 rfl rfl 16 (by decide) (hw _ m_242) (fun _ h9 => h9) rfl (by decide +kernel) rfl rfl (Nat.le_of_ble_eq_true rfl) d_M_cut_146 (fun H locs hP _ hS => ?_)
          replace hP : va_P (dC, dI) classes (wM ad cI N k0 k1 (v - a) (b - a)) H := hP
          refine lv_aload_n hx hb d_M_cut_149 rfl (lv_at hl 4 rfl) ?_
          refine va_get (D := (dC, dI)) (ci := 2) (v := .long (zl k0)) (C := R_M) (T := T_M) (N := 17) hx hb hw i_M hown hK hP 0 rfl rfl 13 (by decide) (hw _ m_239) (fun _ h9 => h9) rfl d_M_cut_150 ?_
          refine lv_aload_n hx hb d_M_cut_153 rfl (lv_at hl 4 rfl) ?_
          refine va_get (D := (dC, dI)) (ci := 2) (v := .long (zl (b - a))) (C := R_M) (T := T_M) (N := 17) hx hb hw i_M hown hK hP 0 rfl rfl 16 (by decide) (hw _ m_242) (fun _ h9 => h9) rfl d_M_cut_154 ?_
          refine zr_lmul hx hb d_M_cut_157 ?_
          refine lv_aload_n hx hb d_M_cut_158 rfl (lv_at hl 4 rfl) ?_
          refine va_get (D := (dC, dI)) (ci := 2) (v := .long (zl (v - a))) (C := R_M) (T := T_M) (N := 17) hx hb hw i_M hown hK hP 0 rfl rfl 15 (by decide) (hw _ m_241) (fun _ h9 => h9) rfl d_M_cut_159 ?_
          refine lv_aload_n hx hb d_M_cut_162 rfl (lv_at hl 4 rfl) ?_
          refine va_get (D := (dC, dI)) (ci := 2) (v := .long (zl k1)) (C := R_M) (T := T_M) (N := 17) hx hb hw i_M hown hK hP 0 rfl rfl 14 (by decide) (hw _ m_240) (fun _ h9 => h9) rfl d_M_cut_163 ?_
          have b_39 : zB (-13225000000) 13225000000 ((v - a) * k1) := zB.w (zb_mul (A := 115000) (B := 115000) (zB.w b_29 (by decide) (by decide)) (zB.w hb_k1 (by decide) (by decide))) (by decide) (by decide)
          refine zr_lmul hx hb d_M_cut_166 ?_
          refine zr_lcmp_gt (tgt := 175) hx hb (zB.L b_31 (by decide) (by decide)) (zB.L b_39 (by decide) (by decide)) d_M_cut_167 d_M_cut_168 (by decide) (fun c_40 => ?_) (fun c_40 => ?_)
          · replace hq := (if_pos c_40).symm.trans hq
            refine lv_iconst (v := zi 0) hx hb d_M_cut_175 rfl ?_
            subst hq
            exact zw_z hx hb hr hlocks (zB.w (zb_c 0) (by decide) (by decide)) rfl hP hS d_M_cut_176
          · replace hq := (if_neg c_40).symm.trans hq
            refine lv_iconst (v := zi 1) hx hb d_M_cut_171 rfl ?_
            refine lv_goto (tgt := 176) hx hb d_M_cut_172 (by decide) ?_
            subst hq
            exact zw_z hx hb hr hlocks (zB.w (zb_c 1) (by decide) (by decide)) rfl hP hS d_M_cut_176
      · replace hq := (if_pos c_32).symm.trans hq
        refine lv_aload_n hx hb d_M_cut_107 rfl (lv_at hl 4 rfl) ?_
        refine lv_lload hx hb d_M_cut_108 (lv_at hl 2 rfl) ?_
        refine va_put (D := (dC, dI)) (ci := 2) (v := .long (zl (d - a))) (ty := .long) (C := R_M) (T := T_M) (N := 17) hx hb hw i_M t_M ty_M nm_M hown hK hP (hD _ _ _ _ _) hS 0 rfl rfl 13 (by decide) (hw _ m_239) (fun _ h9 => h9) rfl (by decide +kernel) rfl rfl (Nat.le_of_ble_eq_true rfl) d_M_cut_110 (fun H locs hP _ hS => ?_)
        replace hP : va_P (dC, dI) classes (wM ad cI N (d - a) k1 k2 k3) H := hP
        refine lv_aload_n hx hb d_M_cut_113 rfl (lv_at hl 4 rfl) ?_
        refine lv_lload hx hb d_M_cut_114 (lv_at hl 0 rfl) ?_
        refine va_put (D := (dC, dI)) (ci := 2) (v := .long (zl (b - a))) (ty := .long) (C := R_M) (T := T_M) (N := 17) hx hb hw i_M t_M ty_M nm_M hown hK hP (hD _ _ _ _ _) hS 0 rfl rfl 14 (by decide) (hw _ m_240) (fun _ h9 => h9) rfl (by decide +kernel) rfl rfl (Nat.le_of_ble_eq_true rfl) d_M_cut_116 (fun H locs hP _ hS => ?_)
        replace hP : va_P (dC, dI) classes (wM ad cI N (d - a) (b - a) k2 k3) H := hP
        refine lv_lload hx hb d_M_cut_119 (lv_at hl 1 rfl) ?_
        refine lv_aload_n hx hb d_M_cut_121 rfl (lv_at hl 4 rfl) ?_
        refine va_get (D := (dC, dI)) (ci := 2) (v := .long (zl k3)) (C := R_M) (T := T_M) (N := 17) hx hb hw i_M hown hK hP 0 rfl rfl 16 (by decide) (hw _ m_242) (fun _ h9 => h9) rfl d_M_cut_122 ?_
        have b_41 : zB (-13225000000) 13225000000 ((v - a) * k3) := zB.w (zb_mul (A := 115000) (B := 115000) (zB.w b_29 (by decide) (by decide)) (zB.w hb_k3 (by decide) (by decide))) (by decide) (by decide)
        refine zr_lmul hx hb d_M_cut_125 ?_
        refine lv_aload_n hx hb d_M_cut_126 rfl (lv_at hl 4 rfl) ?_
        refine va_get (D := (dC, dI)) (ci := 2) (v := .long (zl k2)) (C := R_M) (T := T_M) (N := 17) hx hb hw i_M hown hK hP 0 rfl rfl 15 (by decide) (hw _ m_241) (fun _ h9 => h9) rfl d_M_cut_127 ?_
        refine lv_lload hx hb d_M_cut_130 (lv_at hl 0 rfl) ?_
        have b_42 : zB (-3450000000) 3450000000 (k2 * (b - a)) := zB.w (zb_mul (A := 115000) (B := 30000) (zB.w hb_k2 (by decide) (by decide)) (zB.w r_27 (by decide) (by decide))) (by decide) (by decide)
        refine zr_lmul hx hb d_M_cut_132 ?_
        refine zr_lcmp_ge (tgt := 149) hx hb (zB.L b_41 (by decide) (by decide)) (zB.L b_42 (by decide) (by decide)) d_M_cut_133 d_M_cut_134 (by decide) (fun c_43 => ?_) (fun c_43 => ?_)
        · replace hq := (if_neg c_43).symm.trans hq
          refine lv_aload_n hx hb d_M_cut_149 rfl (lv_at hl 4 rfl) ?_
          refine va_get (D := (dC, dI)) (ci := 2) (v := .long (zl (d - a))) (C := R_M) (T := T_M) (N := 17) hx hb hw i_M hown hK hP 0 rfl rfl 13 (by decide) (hw _ m_239) (fun _ h9 => h9) rfl d_M_cut_150 ?_
          refine lv_aload_n hx hb d_M_cut_153 rfl (lv_at hl 4 rfl) ?_
          refine va_get (D := (dC, dI)) (ci := 2) (v := .long (zl k3)) (C := R_M) (T := T_M) (N := 17) hx hb hw i_M hown hK hP 0 rfl rfl 16 (by decide) (hw _ m_242) (fun _ h9 => h9) rfl d_M_cut_154 ?_
          have b_44 : zB (-13225000000) 13225000000 ((d - a) * k3) := zB.w (zb_mul (A := 115000) (B := 115000) (zB.w b_28 (by decide) (by decide)) (zB.w hb_k3 (by decide) (by decide))) (by decide) (by decide)
          refine zr_lmul hx hb d_M_cut_157 ?_
          refine lv_aload_n hx hb d_M_cut_158 rfl (lv_at hl 4 rfl) ?_
          refine va_get (D := (dC, dI)) (ci := 2) (v := .long (zl k2)) (C := R_M) (T := T_M) (N := 17) hx hb hw i_M hown hK hP 0 rfl rfl 15 (by decide) (hw _ m_241) (fun _ h9 => h9) rfl d_M_cut_159 ?_
          refine lv_aload_n hx hb d_M_cut_162 rfl (lv_at hl 4 rfl) ?_
          refine va_get (D := (dC, dI)) (ci := 2) (v := .long (zl (b - a))) (C := R_M) (T := T_M) (N := 17) hx hb hw i_M hown hK hP 0 rfl rfl 14 (by decide) (hw _ m_240) (fun _ h9 => h9) rfl d_M_cut_163 ?_
          refine zr_lmul hx hb d_M_cut_166 ?_
          refine zr_lcmp_gt (tgt := 175) hx hb (zB.L b_44 (by decide) (by decide)) (zB.L b_42 (by decide) (by decide)) d_M_cut_167 d_M_cut_168 (by decide) (fun c_45 => ?_) (fun c_45 => ?_)
          · replace hq := (if_pos c_45).symm.trans hq
            refine lv_iconst (v := zi 0) hx hb d_M_cut_175 rfl ?_
            subst hq
            exact zw_z hx hb hr hlocks (zB.w (zb_c 0) (by decide) (by decide)) rfl hP hS d_M_cut_176
          · replace hq := (if_neg c_45).symm.trans hq
            refine lv_iconst (v := zi 1) hx hb d_M_cut_171 rfl ?_
            refine lv_goto (tgt := 176) hx hb d_M_cut_172 (by decide) ?_
            subst hq
            exact zw_z hx hb hr hlocks (zB.w (zb_c 1) (by decide) (by decide)) rfl hP hS d_M_cut_176
        · replace hq := (if_pos c_43).symm.trans hq
          refine lv_aload_n hx hb d_M_cut_137 rfl (lv_at hl 4 rfl) ?_
          refine lv_lload hx hb d_M_cut_138 (lv_at hl 1 rfl) ?_
          refine va_put (D := (dC, dI)) (ci := 2) (v := .long (zl (v - a))) (ty := .long) (C := R_M) (T := T_M) (N := 17) hx hb hw i_M t_M ty_M nm_M hown hK hP (hD _ _ _ _ _) hS 0 rfl rfl 15 (by decide) (hw _ m_241) (fun _ h9 => h9) rfl (by decide +kernel) rfl rfl (Nat.le_of_ble_eq_true rfl) d_M_cut_140 (fun H locs hP _ hS => ?_)
          replace hP : va_P (dC, dI) classes (wM ad cI N (d - a) (b - a) (v - a) k3) H := hP
          refine lv_aload_n hx hb d_M_cut_143 rfl (lv_at hl 4 rfl) ?_
          refine lv_lload hx hb d_M_cut_144 (lv_at hl 0 rfl) ?_
          refine va_put (D := (dC, dI)) (ci := 2) (v := .long (zl (b - a))) (ty := .long) (C := R_M) (T := T_M) (N := 17) hx hb hw i_M t_M ty_M nm_M hown hK hP (hD _ _ _ _ _) hS 0 rfl rfl 16 (by decide) (hw _ m_242) (fun _ h9 => h9) rfl (by decide +kernel) rfl rfl (Nat.le_of_ble_eq_true rfl) d_M_cut_146 (fun H locs hP _ hS => ?_)
          replace hP : va_P (dC, dI) classes (wM ad cI N (d - a) (b - a) (v - a) (b - a)) H := hP
          refine lv_aload_n hx hb d_M_cut_149 rfl (lv_at hl 4 rfl) ?_
          refine va_get (D := (dC, dI)) (ci := 2) (v := .long (zl (d - a))) (C := R_M) (T := T_M) (N := 17) hx hb hw i_M hown hK hP 0 rfl rfl 13 (by decide) (hw _ m_239) (fun _ h9 => h9) rfl d_M_cut_150 ?_
          refine lv_aload_n hx hb d_M_cut_153 rfl (lv_at hl 4 rfl) ?_
          refine va_get (D := (dC, dI)) (ci := 2) (v := .long (zl (b - a))) (C := R_M) (T := T_M) (N := 17) hx hb hw i_M hown hK hP 0 rfl rfl 16 (by decide) (hw _ m_242) (fun _ h9 => h9) rfl d_M_cut_154 ?_
          have b_46 : zB (-3450000000) 3450000000 ((d - a) * (b - a)) := zB.w (zb_mul (A := 115000) (B := 30000) (zB.w b_28 (by decide) (by decide)) (zB.w r_27 (by decide) (by decide))) (by decide) (by decide)
          refine zr_lmul hx hb d_M_cut_157 ?_
          refine lv_aload_n hx hb d_M_cut_158 rfl (lv_at hl 4 rfl) ?_
          refine va_get (D := (dC, dI)) (ci := 2) (v := .long (zl (v - a))) (C := R_M) (T := T_M) (N := 17) hx hb hw i_M hown hK hP 0 rfl rfl 15 (by decide) (hw _ m_241) (fun _ h9 => h9) rfl d_M_cut_159 ?_
          refine lv_aload_n hx hb d_M_cut_162 rfl (lv_at hl 4 rfl) ?_
          refine va_get (D := (dC, dI)) (ci := 2) (v := .long (zl (b - a))) (C := R_M) (T := T_M) (N := 17) hx hb hw i_M hown hK hP 0 rfl rfl 14 (by decide) (hw _ m_240) (fun _ h9 => h9) rfl d_M_cut_163 ?_
          have b_47 : zB (-3450000000) 3450000000 ((v - a) * (b - a)) := zB.w (zb_mul (A := 115000) (B := 30000) (zB.w b_29 (by decide) (by decide)) (zB.w r_27 (by decide) (by decide))) (by decide) (by decide)
          refine zr_lmul hx hb d_M_cut_166 ?_
          refine zr_lcmp_gt (tgt := 175) hx hb (zB.L b_46 (by decide) (by decide)) (zB.L b_47 (by decide) (by decide)) d_M_cut_167 d_M_cut_168 (by decide) (fun c_48 => ?_) (fun c_48 => ?_)
          · replace hq := (if_pos c_48).symm.trans hq
            refine lv_iconst (v := zi 0) hx hb d_M_cut_175 rfl ?_
            subst hq
            exact zw_z hx hb hr hlocks (zB.w (zb_c 0) (by decide) (by decide)) rfl hP hS d_M_cut_176
          · replace hq := (if_neg c_48).symm.trans hq
            refine lv_iconst (v := zi 1) hx hb d_M_cut_171 rfl ?_
            refine lv_goto (tgt := 176) hx hb d_M_cut_172 (by decide) ?_
            subst hq
            exact zw_z hx hb hr hlocks (zB.w (zb_c 1) (by decide) (by decide)) rfl hP hS d_M_cut_176
  · replace hq := (if_pos c_2).symm.trans hq
    have r_49 : zB 0 0 (b - a) := ⟨(Int.le_of_eq c_2.symm), (Int.le_of_eq c_2)⟩
    refine lv_iload_n hx hb d_M_cut_13 rfl (lv_at hl 2 rfl) ?_
    refine lv_iload_n hx hb d_M_cut_14 rfl (lv_at hl 4 rfl) ?_
    refine zr_icmp_lt (tgt := 28) hx hb (zB.I hb_a (by decide) (by decide)) (zB.I hb_d (by decide) (by decide)) d_M_cut_15 (by decide) (fun c_50 => ?_) (fun c_50 => ?_)
    · replace hq := (if_pos c_50).symm.trans hq
      refine lv_iconst (v := zi 0) hx hb d_M_cut_28 rfl ?_
      subst hq
      exact zw_z hx hb hr hlocks (zB.w (zb_c 0) (by decide) (by decide)) rfl hP hS d_M_cut_29
    · replace hq := (if_neg c_50).symm.trans hq
      refine lv_iload_n hx hb d_M_cut_18 rfl (lv_at hl 2 rfl) ?_
      refine lv_iload hx hb d_M_cut_19 (lv_at hl 5 rfl) ?_
      refine zr_icmp_gt (tgt := 28) hx hb (zB.I hb_a (by decide) (by decide)) (zB.I hb_v (by decide) (by decide)) d_M_cut_21 (by decide) (fun c_51 => ?_) (fun c_51 => ?_)
      · replace hq := (if_pos c_51).symm.trans hq
        refine lv_iconst (v := zi 0) hx hb d_M_cut_28 rfl ?_
        subst hq
        exact zw_z hx hb hr hlocks (zB.w (zb_c 0) (by decide) (by decide)) rfl hP hS d_M_cut_29
      · replace hq := (if_neg c_51).symm.trans hq
        refine lv_iconst (v := zi 1) hx hb d_M_cut_24 rfl ?_
        refine lv_goto (tgt := 29) hx hb d_M_cut_25 (by decide) ?_
        subst hq
        exact zw_z hx hb hr hlocks (zB.w (zb_c 1) (by decide) (by decide)) rfl hP hS d_M_cut_29
def f_M_isBelow (a b d v w : Int) : Int := if (((b - a) * d) + (a * v)) < (b * w) then (1) else (0)
theorem bb_M_isBelow (a b d v w : Int) : zB 0 1 (f_M_isBelow a b d v w) := by
  unfold f_M_isBelow
  repeat' split
  all_goals first | exact ⟨by decide, by decide⟩  | apply bb_M_within
set_option maxHeartbeats 4000000 in
set_option maxRecDepth 100000 in
theorem k_M_isBelow (l : Launch) (a b d v w : Int) (hb_a : zB (-115000) 115000 a) (hb_b : zB (-115000) 115000 b) (hb_d : zB (-101000) 101000 d) (hb_v : zB (-101000) 101000 v) (hb_w : zB (-100000) 100000 w) : Met l y_M_isBelow (Cond.code y_M_isBelow c_M_isBelow 7 (some .boolean) :: zT) { frames := 0, cells := 0, slots := 0, locals := 0 } (va_Pc ([.long (zl a), .long (zl b), .int (zi d), .int (zi v), .int (zi w)] : List Value) (fun _ => True)) (zR (.int (zi (f_M_isBelow a b d v w)))) 0 0 (fun _ => False) := by
  refine zh (cc := c_M_isBelow) (C := R_M) (by decide) rfl rfl (Nat.le_of_ble_eq_true rfl) ?_
  intro p e s m below meth c ls hx hb hr hlocks hml hown hname hts hl hB
  have hw : ∀ w9 ∈ zT, w9.before ([.long (zl a), .long (zl b), .int (zi d), .int (zi v), .int (zi w)] : List Value).toArray s = true := fun w9 h => hts w9 (List.mem_cons_of_mem _ h)
  obtain ⟨hl_a, hh_a⟩ := id hb_a
  obtain ⟨hl_b, hh_b⟩ := id hb_b
  obtain ⟨hl_d, hh_d⟩ := id hb_d
  obtain ⟨hl_v, hh_v⟩ := id hb_v
  obtain ⟨hl_w, hh_w⟩ := id hb_w
  generalize hq : f_M_isBelow a b d v w = r
  unfold f_M_isBelow at hq
  replace hl : lv_has ls 7 [(0, .long (zl a)), (2, .long (zl b)), (4, .int (zi d)), (5, .int (zi v)), (6, .int (zi w))] := hl
  refine lv_lload_n hx hb d_M_isBelow_0 rfl (lv_at hl 1 rfl) ?_
  refine lv_lload_n hx hb d_M_isBelow_1 rfl (lv_at hl 0 rfl) ?_
  have b_1 : zB (-230000) 230000 (b - a) := zB.w (zb_sub hb_b hb_a) (by decide) (by decide)
  refine zr_lsub hx hb d_M_isBelow_2 ?_
  refine lv_iload hx hb d_M_isBelow_3 (lv_at hl 2 rfl) ?_
  refine zr_i2l hx hb (zB.I hb_d (by decide) (by decide)) d_M_isBelow_5 ?_
  have b_2 : zB (-23230000000) 23230000000 ((b - a) * d) := zB.w (zb_mul (A := 230000) (B := 101000) (zB.w b_1 (by decide) (by decide)) (zB.w hb_d (by decide) (by decide))) (by decide) (by decide)
  refine zr_lmul hx hb d_M_isBelow_6 ?_
  refine lv_lload_n hx hb d_M_isBelow_7 rfl (lv_at hl 0 rfl) ?_
  refine lv_iload hx hb d_M_isBelow_8 (lv_at hl 3 rfl) ?_
  refine zr_i2l hx hb (zB.I hb_v (by decide) (by decide)) d_M_isBelow_10 ?_
  have b_3 : zB (-11615000000) 11615000000 (a * v) := zB.w (zb_mul (A := 115000) (B := 101000) (zB.w hb_a (by decide) (by decide)) (zB.w hb_v (by decide) (by decide))) (by decide) (by decide)
  refine zr_lmul hx hb d_M_isBelow_11 ?_
  have b_4 : zB (-34845000000) 34845000000 (((b - a) * d) + (a * v)) := zB.w (zb_add b_2 b_3) (by decide) (by decide)
  refine zr_ladd hx hb d_M_isBelow_12 ?_
  refine lv_lload_n hx hb d_M_isBelow_13 rfl (lv_at hl 1 rfl) ?_
  refine lv_iload hx hb d_M_isBelow_14 (lv_at hl 4 rfl) ?_
  refine zr_i2l hx hb (zB.I hb_w (by decide) (by decide)) d_M_isBelow_16 ?_
  have b_5 : zB (-11500000000) 11500000000 (b * w) := zB.w (zb_mul (A := 115000) (B := 100000) (zB.w hb_b (by decide) (by decide)) (zB.w hb_w (by decide) (by decide))) (by decide) (by decide)
  refine zr_lmul hx hb d_M_isBelow_17 ?_
  refine zr_lcmp_ge (tgt := 26) hx hb (zB.L b_4 (by decide) (by decide)) (zB.L b_5 (by decide) (by decide)) d_M_isBelow_18 d_M_isBelow_19 (by decide) (fun c_6 => ?_) (fun c_6 => ?_)
  · replace hq := (if_neg c_6).symm.trans hq
    refine lv_iconst (v := zi 0) hx hb d_M_isBelow_26 rfl ?_
    exact ze_z hx hb hr hlocks (zB.w (zb_c 0) (by decide) (by decide)) hq d_M_isBelow_27
  · replace hq := (if_pos c_6).symm.trans hq
    refine lv_iconst (v := zi 1) hx hb d_M_isBelow_22 rfl ?_
    refine lv_goto (tgt := 27) hx hb d_M_isBelow_23 (by decide) ?_
    exact ze_z hx hb hr hlocks (zB.w (zb_c 1) (by decide) (by decide)) hq d_M_isBelow_27
def f_M_isBoxed (N : Nat → Int → Int) (x a b d v w y : Int) : Int := if ((f_M_cut a v (N 6 (5 * x)) (N 6 ((5 * x) + 2)) 0 1 1 1).1) = 0 then (0) else (if ((f_M_cut b w (N 6 ((5 * x) + 1)) (N 6 ((5 * x) + 3)) ((f_M_cut a v (N 6 (5 * x)) (N 6 ((5 * x) + 2)) 0 1 1 1).2.1) ((f_M_cut a v (N 6 (5 * x)) (N 6 ((5 * x) + 2)) 0 1 1 1).2.2.1) ((f_M_cut a v (N 6 (5 * x)) (N 6 ((5 * x) + 2)) 0 1 1 1).2.2.2.1) ((f_M_cut a v (N 6 (5 * x)) (N 6 ((5 * x) + 2)) 0 1 1 1).2.2.2.2)).1) = 0 then (0) else (if (f_M_isBelow ((f_M_cut b w (N 6 ((5 * x) + 1)) (N 6 ((5 * x) + 3)) ((f_M_cut a v (N 6 (5 * x)) (N 6 ((5 * x) + 2)) 0 1 1 1).2.1) ((f_M_cut a v (N 6 (5 * x)) (N 6 ((5 * x) + 2)) 0 1 1 1).2.2.1) ((f_M_cut a v (N 6 (5 * x)) (N 6 ((5 * x) + 2)) 0 1 1 1).2.2.2.1) ((f_M_cut a v (N 6 (5 * x)) (N 6 ((5 * x) + 2)) 0 1 1 1).2.2.2.2)).2.1) ((f_M_cut b w (N 6 ((5 * x) + 1)) (N 6 ((5 * x) + 3)) ((f_M_cut a v (N 6 (5 * x)) (N 6 ((5 * x) + 2)) 0 1 1 1).2.1) ((f_M_cut a v (N 6 (5 * x)) (N 6 ((5 * x) + 2)) 0 1 1 1).2.2.1) ((f_M_cut a v (N 6 (5 * x)) (N 6 ((5 * x) + 2)) 0 1 1 1).2.2.2.1) ((f_M_cut a v (N 6 (5 * x)) (N 6 ((5 * x) + 2)) 0 1 1 1).2.2.2.2)).2.2.1) d y (N 6 ((5 * x) + 4))) = 0 then (if (f_M_isBelow ((f_M_cut b w (N 6 ((5 * x) + 1)) (N 6 ((5 * x) + 3)) ((f_M_cut a v (N 6 (5 * x)) (N 6 ((5 * x) + 2)) 0 1 1 1).2.1) ((f_M_cut a v (N 6 (5 * x)) (N 6 ((5 * x) + 2)) 0 1 1 1).2.2.1) ((f_M_cut a v (N 6 (5 * x)) (N 6 ((5 * x) + 2)) 0 1 1 1).2.2.2.1) ((f_M_cut a v (N 6 (5 * x)) (N 6 ((5 * x) + 2)) 0 1 1 1).2.2.2.2)).2.2.2.1) ((f_M_cut b w (N 6 ((5 * x) + 1)) (N 6 ((5 * x) + 3)) ((f_M_cut a v (N 6 (5 * x)) (N 6 ((5 * x) + 2)) 0 1 1 1).2.1) ((f_M_cut a v (N 6 (5 * x)) (N 6 ((5 * x) + 2)) 0 1 1 1).2.2.1) ((f_M_cut a v (N 6 (5 * x)) (N 6 ((5 * x) + 2)) 0 1 1 1).2.2.2.1) ((f_M_cut a v (N 6 (5 * x)) (N 6 ((5 * x) + 2)) 0 1 1 1).2.2.2.2)).2.2.2.2) d y (N 6 ((5 * x) + 4))) = 0 then (0) else (1)) else (1)))
theorem bb_M_isBoxed (N : Nat → Int → Int) (x a b d v w y : Int) : zB 0 1 (f_M_isBoxed N x a b d v w y) := by
  unfold f_M_isBoxed
  repeat' split
  all_goals first | exact ⟨by decide, by decide⟩  | apply bb_M_within
set_option maxHeartbeats 4000000 in
set_option maxRecDepth 100000 in
theorem k_M_isBoxed (l : Launch) (dC : Nat → ClassId) (dI : Nat → Nat → Nat) (ad : Nat → Nat) (cI : ClassId) (N : Nat → Int → Int) (k0 k1 k2 k3 : Int) (hI : jN N) (hj : zJ 8 ad) (hb_k0 : zB (-115000) 115000 k0) (hb_k1 : zB (-115000) 115000 k1) (hb_k2 : zB (-115000) 115000 k2) (hb_k3 : zB (-115000) 115000 k3) (x a b d v w y : Int) (hb_x : zB 0 7 x) (hb_a : zB (-15000) 15000 a) (hb_b : zB (-15000) 15000 b) (hb_d : zB (-101000) 101000 d) (hb_v : zB (-15000) 15000 v) (hb_w : zB (-15000) 15000 w) (hb_y : zB (-101000) 101000 y) : Met l y_M_isBoxed (Cond.code y_M_isBoxed c_M_isBoxed 9 (some .boolean) :: zT) { frames := 1, cells := 0, slots := 0, locals := 32 } (va_Pc ([.ref (ad 0), .int (zi x), .int (zi a), .int (zi b), .int (zi d), .int (zi v), .int (zi w), .int (zi y)] : List Value) (zWM dC dI ad cI N k0 k1 k2 k3)) (zQ (some (.int (zi (f_M_isBoxed N x a b d v w y)))) (fun H => ∃ k0 k1 k2 k3 : Int, zB (-115000) 115000 k0 ∧ zB (-115000) 115000 k1 ∧ zB (-115000) 115000 k2 ∧ zB (-115000) 115000 k3 ∧ va_P (dC, dI) classes (wM ad cI N k0 k1 k2 k3) H) (zAM ad)) 0 0 (zAM ad) := by
  refine zh (cc := c_M_isBoxed) (C := R_M) (by decide) rfl rfl (Nat.le_of_ble_eq_true rfl) ?_
  intro p e s m below meth c ls hx hb hr hlocks hml hown hname hts hl hB
  have hw : ∀ w9 ∈ zT, w9.before ([.ref (ad 0), .int (zi x), .int (zi a), .int (zi b), .int (zi d), .int (zi v), .int (zi w), .int (zi y)] : List Value).toArray s = true := fun w9 h => hts w9 (List.mem_cons_of_mem _ h)
  obtain ⟨hP, hK⟩ := hB
  obtain ⟨hn0, hn1⟩ := id (jN_s0 hI)
  have hD := zDM hj cI
  have hS : va_S (zAM ad) s.heap s.heap [] := va_S.rf
  obtain ⟨hz0, hz1⟩ := id (jN_s1 hI)
  obtain ⟨hl_x, hh_x⟩ := id hb_x
  obtain ⟨hl_a, hh_a⟩ := id hb_a
  obtain ⟨hl_b, hh_b⟩ := id hb_b
  obtain ⟨hl_d, hh_d⟩ := id hb_d
  obtain ⟨hl_v, hh_v⟩ := id hb_v
  obtain ⟨hl_w, hh_w⟩ := id hb_w
  obtain ⟨hl_y, hh_y⟩ := id hb_y
  generalize hq : f_M_isBoxed N x a b d v w y = r
  unfold f_M_isBoxed at hq
  replace hl : lv_has ls 9 [(0, .ref (ad 0)), (1, .int (zi x)), (2, .int (zi a)), (3, .int (zi b)), (4, .int (zi d)), (5, .int (zi v)), (6, .int (zi w)), (7, .int (zi y))] := hl
  refine lv_aload_n hx hb d_M_isBoxed_0 rfl (lv_at hl 0 rfl) ?_
  refine lv_lconst (v := zl 0) hx hb d_M_isBoxed_1 (by decide) ?_
  refine va_put (D := (dC, dI)) (ci := 2) (v := .long (zl 0)) (ty := .long) (C := R_M) (T := T_M) (N := 17) hx hb hw i_M t_M ty_M nm_M hown hK hP (hD _ _ _ _ _) hS 0 rfl rfl 13 (by decide) (hw _ m_239) (fun _ h9 => h9) rfl (by decide +kernel) rfl rfl (Nat.le_of_ble_eq_true rfl) d_M_isBoxed_2 (fun H locs hP _ hS => ?_)
  replace hP : va_P (dC, dI) classes (wM ad cI N 0 k1 k2 k3) H := hP
  refine lv_aload_n hx hb d_M_isBoxed_5 rfl (lv_at hl 0 rfl) ?_
  refine lv_lconst (v := zl 1) hx hb d_M_isBoxed_6 (by decide) ?_
  refine va_put (D := (dC, dI)) (ci := 2) (v := .long (zl 1)) (ty := .long) (C := R_M) (T := T_M) (N := 17) hx hb hw i_M t_M ty_M nm_M hown hK hP (hD _ _ _ _ _) hS 0 rfl rfl 14 (by decide) (hw _ m_240) (fun _ h9 => h9) rfl (by decide +kernel) rfl rfl (Nat.le_of_ble_eq_true rfl) d_M_isBoxed_7 (fun H locs hP _ hS => ?_)
  replace hP : va_P (dC, dI) classes (wM ad cI N 0 1 k2 k3) H := hP
  refine lv_aload_n hx hb d_M_isBoxed_10 rfl (lv_at hl 0 rfl) ?_
  refine lv_lconst (v := zl 1) hx hb d_M_isBoxed_11 (by decide) ?_
  refine va_put (D := (dC, dI)) (ci := 2) (v := .long (zl 1)) (ty := .long) (C := R_M) (T := T_M) (N := 17) hx hb hw i_M t_M ty_M nm_M hown hK hP (hD _ _ _ _ _) hS 0 rfl rfl 15 (by decide) (hw _ m_241) (fun _ h9 => h9) rfl (by decide +kernel) rfl rfl (Nat.le_of_ble_eq_true rfl) d_M_isBoxed_12 (fun H locs hP _ hS => ?_)
  replace hP : va_P (dC, dI) classes (wM ad cI N 0 1 1 k3) H := hP
  refine lv_aload_n hx hb d_M_isBoxed_15 rfl (lv_at hl 0 rfl) ?_
  refine lv_lconst (v := zl 1) hx hb d_M_isBoxed_16 (by decide) ?_
  refine va_put (D := (dC, dI)) (ci := 2) (v := .long (zl 1)) (ty := .long) (C := R_M) (T := T_M) (N := 17) hx hb hw i_M t_M ty_M nm_M hown hK hP (hD _ _ _ _ _) hS 0 rfl rfl 16 (by decide) (hw _ m_242) (fun _ h9 => h9) rfl (by decide +kernel) rfl rfl (Nat.le_of_ble_eq_true rfl) d_M_isBoxed_17 (fun H locs hP _ hS => ?_)
  replace hP : va_P (dC, dI) classes (wM ad cI N 0 1 1 1) H := hP
  refine lv_iconst (v := zi 5) hx hb d_M_isBoxed_20 rfl ?_
  refine lv_iload_n hx hb d_M_isBoxed_21 rfl (lv_at hl 1 rfl) ?_
  have b_1 : zB 0 35 (5 * x) := zB.w (zb_mulq (zb_c 5) hb_x (by decide) (by decide)) (by decide) (by decide)
  refine zr_imul hx hb d_M_isBoxed_22 ?_
  refine lv_istore (lv' := [(8, .int (zi (5 * x))), (0, .ref (ad 0)), (1, .int (zi x)), (2, .int (zi a)), (3, .int (zi b)), (4, .int (zi d)), (5, .int (zi v)), (6, .int (zi w)), (7, .int (zi y))]) hx hb d_M_isBoxed_23 hl (by decide) rfl (fun ls hl => ?_)
  refine lv_aload_n hx hb d_M_isBoxed_25 rfl (lv_at hl 1 rfl) ?_
  refine lv_iload_n hx hb d_M_isBoxed_26 rfl (lv_at hl 3 rfl) ?_
  refine lv_iload hx hb d_M_isBoxed_27 (lv_at hl 6 rfl) ?_
  refine lv_aload_n hx hb d_M_isBoxed_29 rfl (lv_at hl 1 rfl) ?_
  refine va_get (D := (dC, dI)) (ci := 2) (v := .ref (ad 7)) (C := R_M) (T := T_M) (N := 17) hx hb hw i_M hown hK hP 0 rfl rfl 8 (by decide) (hw _ m_234) (fun _ h9 => h9) rfl d_M_isBoxed_30 ?_
  refine lv_iload hx hb d_M_isBoxed_33 (lv_at hl 0 rfl) ?_
  refine zr_iald hx hb hK hP 7 0 (cA := cI) (n := 40) (g := N 6) rfl rfl (i := 5 * x) (by omega) (by omega) (by decide) d_M_isBoxed_35 ?_
  refine lv_aload_n hx hb d_M_isBoxed_36 rfl (lv_at hl 1 rfl) ?_
  refine va_get (D := (dC, dI)) (ci := 2) (v := .ref (ad 7)) (C := R_M) (T := T_M) (N := 17) hx hb hw i_M hown hK hP 0 rfl rfl 8 (by decide) (hw _ m_234) (fun _ h9 => h9) rfl d_M_isBoxed_37 ?_
  refine lv_iload hx hb d_M_isBoxed_40 (lv_at hl 0 rfl) ?_
  refine lv_iconst (v := zi 2) hx hb d_M_isBoxed_42 rfl ?_
  have b_2 : zB 2 37 ((5 * x) + 2) := zB.w (zb_add b_1 (zb_c 2)) (by decide) (by decide)
  refine zr_iadd hx hb d_M_isBoxed_43 ?_
  refine zr_iald hx hb hK hP 7 0 (cA := cI) (n := 40) (g := N 6) rfl rfl (i := (5 * x) + 2) (by omega) (by omega) (by decide) d_M_isBoxed_44 ?_
  refine zc_w (va_runV (As := [.int (zi a), .int (zi v), .int (zi (N 6 (5 * x))), .int (zi (N 6 ((5 * x) + 2)))]) (rest := []) ⟨hx, hb, hml, hown, hts⟩ (k_M_cut l dC dI ad cI N 0 1 1 1 hI hj (zB.w (zb_c 0) (by decide) (by decide)) (zB.w (zb_c 1) (by decide) (by decide)) (zB.w (zb_c 1) (by decide) (by decide)) (zB.w (zb_c 1) (by decide) (by decide)) a v (N 6 (5 * x)) (N 6 ((5 * x) + 2)) (zB.w hb_a (by decide) (by decide)) (zB.w hb_v (by decide) (by decide)) (zB.w (jN_a6 hI (5 * x)) (by decide) (by decide)) (zB.w (jN_a6 hI ((5 * x) + 2)) (by decide) (by decide)) ) (zcV 4 hts m_314 m_3 m_312 m_313 m_399 rfl rfl q_M_cut ⟨Nat.le_of_ble_eq_true rfl, Nat.le_of_ble_eq_true rfl⟩) (zpM0 hP hK [.int (zi a), .int (zi v), .int (zi (N 6 (5 * x))), .int (zi (N 6 ((5 * x) + 2)))]) rfl rfl hl.1 rfl (lv_room (Nat.le_of_ble_eq_true rfl)) d_M_isBoxed_45 ⟨Nat.zero_le _, Nat.zero_le _⟩) hS (fun q _ h => h) (fun q h => h) (fun H locs hP hz1 hk1 hS => ?_)
  clear hz1 hk1
  have t_3 := b_M_cut a v (N 6 (5 * x)) (N 6 ((5 * x) + 2)) 0 1 1 1 (zB.w hb_a (by decide) (by decide)) (zB.w hb_v (by decide) (by decide)) (zB.w (jN_a6 hI (5 * x)) (by decide) (by decide)) (zB.w (jN_a6 hI ((5 * x) + 2)) (by decide) (by decide)) (zB.w (zb_c 0) (by decide) (by decide)) (zB.w (zb_c 1) (by decide) (by decide)) (zB.w (zb_c 1) (by decide) (by decide)) (zB.w (zb_c 1) (by decide) (by decide))
  refine zr_if_eq (tgt := 79) hx hb (zB.I (bb_M_cut a v (N 6 (5 * x)) (N 6 ((5 * x) + 2)) 0 1 1 1) (by decide) (by decide)) d_M_isBoxed_48 (by decide) (fun c_4 => ?_) (fun c_4 => ?_)
  · replace hq := (if_pos c_4).symm.trans hq
    have r_5 : zB 0 0 ((f_M_cut a v (N 6 (5 * x)) (N 6 ((5 * x) + 2)) 0 1 1 1).1) := ⟨(Int.le_of_eq c_4.symm), (Int.le_of_eq c_4)⟩
    refine lv_iconst (v := zi 0) hx hb d_M_isBoxed_79 rfl ?_
    exact zw_z hx hb hr hlocks (zB.w (zb_c 0) (by decide) (by decide)) hq ⟨(f_M_cut a v (N 6 (5 * x)) (N 6 ((5 * x) + 2)) 0 1 1 1).2.1, (f_M_cut a v (N 6 (5 * x)) (N 6 ((5 * x) + 2)) 0 1 1 1).2.2.1, (f_M_cut a v (N 6 (5 * x)) (N 6 ((5 * x) + 2)) 0 1 1 1).2.2.2.1, (f_M_cut a v (N 6 (5 * x)) (N 6 ((5 * x) + 2)) 0 1 1 1).2.2.2.2, zB.w t_3.1 (by decide) (by decide), zB.w t_3.2.1 (by decide) (by decide), zB.w t_3.2.2.1 (by decide) (by decide), zB.w t_3.2.2.2 (by decide) (by decide), hP⟩ hS d_M_isBoxed_80
  · replace hq := (if_neg c_4).symm.trans hq
    have r_6 : zB 1 1 ((f_M_cut a v (N 6 (5 * x)) (N 6 ((5 * x) + 2)) 0 1 1 1).1) := ⟨(by have := (bb_M_cut a v (N 6 (5 * x)) (N 6 ((5 * x) + 2)) 0 1 1 1).1; omega), (bb_M_cut a v (N 6 (5 * x)) (N 6 ((5 * x) + 2)) 0 1 1 1).2⟩
    refine lv_aload_n hx hb d_M_isBoxed_51 rfl (lv_at hl 1 rfl) ?_
    refine lv_iload_n hx hb d_M_isBoxed_52 rfl (lv_at hl 4 rfl) ?_
    refine lv_iload hx hb d_M_isBoxed_53 (lv_at hl 7 rfl) ?_
    refine lv_aload_n hx hb d_M_isBoxed_55 rfl (lv_at hl 1 rfl) ?_
    refine va_get (D := (dC, dI)) (ci := 2) (v := .ref (ad 7)) (C := R_M) (T := T_M) (N := 17) hx hb hw i_M hown hK hP 0 rfl rfl 8 (by decide) (hw _ m_234) (fun _ h9 => h9) rfl d_M_isBoxed_56 ?_
    refine lv_iload hx hb d_M_isBoxed_59 (lv_at hl 0 rfl) ?_
    refine lv_iconst (v := zi 1) hx hb d_M_isBoxed_61 rfl ?_
    have b_7 : zB 1 36 ((5 * x) + 1) := zB.w (zb_add b_1 (zb_c 1)) (by decide) (by decide)
    refine zr_iadd hx hb d_M_isBoxed_62 ?_
    refine zr_iald hx hb hK hP 7 0 (cA := cI) (n := 40) (g := N 6) rfl rfl (i := (5 * x) + 1) (by omega) (by omega) (by decide) d_M_isBoxed_63 ?_
    refine lv_aload_n hx hb d_M_isBoxed_64 rfl (lv_at hl 1 rfl) ?_
    refine va_get (D := (dC, dI)) (ci := 2) (v := .ref (ad 7)) (C := R_M) (T := T_M) (N := 17) hx hb hw i_M hown hK hP 0 rfl rfl 8 (by decide) (hw _ m_234) (fun _ h9 => h9) rfl d_M_isBoxed_65 ?_
    refine lv_iload hx hb d_M_isBoxed_68 (lv_at hl 0 rfl) ?_
    refine lv_iconst (v := zi 3) hx hb d_M_isBoxed_70 rfl ?_
    have b_8 : zB 3 38 ((5 * x) + 3) := zB.w (zb_add b_1 (zb_c 3)) (by decide) (by decide)
    refine zr_iadd hx hb d_M_isBoxed_71 ?_
    refine zr_iald hx hb hK hP 7 0 (cA := cI) (n := 40) (g := N 6) rfl rfl (i := (5 * x) + 3) (by omega) (by omega) (by decide) d_M_isBoxed_72 ?_
    refine zc_w (va_runV (As := [.int (zi b), .int (zi w), .int (zi (N 6 ((5 * x) + 1))), .int (zi (N 6 ((5 * x) + 3)))]) (rest := []) ⟨hx, hb, hml, hown, hts⟩ (k_M_cut l dC dI ad cI N ((f_M_cut a v (N 6 (5 * x)) (N 6 ((5 * x) + 2)) 0 1 1 1).2.1) ((f_M_cut a v (N 6 (5 * x)) (N 6 ((5 * x) + 2)) 0 1 1 1).2.2.1) ((f_M_cut a v (N 6 (5 * x)) (N 6 ((5 * x) + 2)) 0 1 1 1).2.2.2.1) ((f_M_cut a v (N 6 (5 * x)) (N 6 ((5 * x) + 2)) 0 1 1 1).2.2.2.2) hI hj (zB.w t_3.1 (by decide) (by decide)) (zB.w t_3.2.1 (by decide) (by decide)) (zB.w t_3.2.2.1 (by decide) (by decide)) (zB.w t_3.2.2.2 (by decide) (by decide)) b w (N 6 ((5 * x) + 1)) (N 6 ((5 * x) + 3)) (zB.w hb_b (by decide) (by decide)) (zB.w hb_w (by decide) (by decide)) (zB.w (jN_a6 hI ((5 * x) + 1)) (by decide) (by decide)) (zB.w (jN_a6 hI ((5 * x) + 3)) (by decide) (by decide)) ) (zcV 4 hts m_314 m_3 m_312 m_313 m_399 rfl rfl q_M_cut ⟨Nat.le_of_ble_eq_true rfl, Nat.le_of_ble_eq_true rfl⟩) (zpM0 hP hK [.int (zi b), .int (zi w), .int (zi (N 6 ((5 * x) + 1))), .int (zi (N 6 ((5 * x) + 3)))]) rfl rfl hl.1 rfl (lv_room (Nat.le_of_ble_eq_true rfl)) d_M_isBoxed_73 ⟨Nat.zero_le _, Nat.zero_le _⟩) hS (fun q _ h => h) (fun q h => h) (fun H locs hP hz1 hk1 hS => ?_)
    clear hz1 hk1
    have t_9 := b_M_cut b w (N 6 ((5 * x) + 1)) (N 6 ((5 * x) + 3)) ((f_M_cut a v (N 6 (5 * x)) (N 6 ((5 * x) + 2)) 0 1 1 1).2.1) ((f_M_cut a v (N 6 (5 * x)) (N 6 ((5 * x) + 2)) 0 1 1 1).2.2.1) ((f_M_cut a v (N 6 (5 * x)) (N 6 ((5 * x) + 2)) 0 1 1 1).2.2.2.1) ((f_M_cut a v (N 6 (5 * x)) (N 6 ((5 * x) + 2)) 0 1 1 1).2.2.2.2) (zB.w hb_b (by decide) (by decide)) (zB.w hb_w (by decide) (by decide)) (zB.w (jN_a6 hI ((5 * x) + 1)) (by decide) (by decide)) (zB.w (jN_a6 hI ((5 * x) + 3)) (by decide) (by decide)) (zB.w t_3.1 (by decide) (by decide)) (zB.w t_3.2.1 (by decide) (by decide)) (zB.w t_3.2.2.1 (by decide) (by decide)) (zB.w t_3.2.2.2 (by decide) (by decide))
    refine zr_if_ne (tgt := 81) hx hb (zB.I (bb_M_cut b w (N 6 ((5 * x) + 1)) (N 6 ((5 * x) + 3)) ((f_M_cut a v (N 6 (5 * x)) (N 6 ((5 * x) + 2)) 0 1 1 1).2.1) ((f_M_cut a v (N 6 (5 * x)) (N 6 ((5 * x) + 2)) 0 1 1 1).2.2.1) ((f_M_cut a v (N 6 (5 * x)) (N 6 ((5 * x) + 2)) 0 1 1 1).2.2.2.1) ((f_M_cut a v (N 6 (5 * x)) (N 6 ((5 * x) + 2)) 0 1 1 1).2.2.2.2)) (by decide) (by decide)) d_M_isBoxed_76 (by decide) (fun c_10 => ?_) (fun c_10 => ?_)
    · replace hq := (if_neg c_10).symm.trans hq
      have r_11 : zB 1 1 ((f_M_cut b w (N 6 ((5 * x) + 1)) (N 6 ((5 * x) + 3)) ((f_M_cut a v (N 6 (5 * x)) (N 6 ((5 * x) + 2)) 0 1 1 1).2.1) ((f_M_cut a v (N 6 (5 * x)) (N 6 ((5 * x) + 2)) 0 1 1 1).2.2.1) ((f_M_cut a v (N 6 (5 * x)) (N 6 ((5 * x) + 2)) 0 1 1 1).2.2.2.1) ((f_M_cut a v (N 6 (5 * x)) (N 6 ((5 * x) + 2)) 0 1 1 1).2.2.2.2)).1) := ⟨(by have := (bb_M_cut b w (N 6 ((5 * x) + 1)) (N 6 ((5 * x) + 3)) ((f_M_cut a v (N 6 (5 * x)) (N 6 ((5 * x) + 2)) 0 1 1 1).2.1) ((f_M_cut a v (N 6 (5 * x)) (N 6 ((5 * x) + 2)) 0 1 1 1).2.2.1) ((f_M_cut a v (N 6 (5 * x)) (N 6 ((5 * x) + 2)) 0 1 1 1).2.2.2.1) ((f_M_cut a v (N 6 (5 * x)) (N 6 ((5 * x) + 2)) 0 1 1 1).2.2.2.2)).1; omega), (bb_M_cut b w (N 6 ((5 * x) + 1)) (N 6 ((5 * x) + 3)) ((f_M_cut a v (N 6 (5 * x)) (N 6 ((5 * x) + 2)) 0 1 1 1).2.1) ((f_M_cut a v (N 6 (5 * x)) (N 6 ((5 * x) + 2)) 0 1 1 1).2.2.1) ((f_M_cut a v (N 6 (5 * x)) (N 6 ((5 * x) + 2)) 0 1 1 1).2.2.2.1) ((f_M_cut a v (N 6 (5 * x)) (N 6 ((5 * x) + 2)) 0 1 1 1).2.2.2.2)).2⟩
      refine lv_aload_n hx hb d_M_isBoxed_81 rfl (lv_at hl 1 rfl) ?_
      refine va_get (D := (dC, dI)) (ci := 2) (v := .long (zl ((f_M_cut b w (N 6 ((5 * x) + 1)) (N 6 ((5 * x) + 3)) ((f_M_cut a v (N 6 (5 * x)) (N 6 ((5 * x) + 2)) 0 1 1 1).2.1) ((f_M_cut a v (N 6 (5 * x)) (N 6 ((5 * x) + 2)) 0 1 1 1).2.2.1) ((f_M_cut a v (N 6 (5 * x)) (N 6 ((5 * x) + 2)) 0 1 1 1).2.2.2.1) ((f_M_cut a v (N 6 (5 * x)) (N 6 ((5 * x) + 2)) 0 1 1 1).2.2.2.2)).2.1))) (C := R_M) (T := T_M) (N := 17) hx hb hw i_M hown hK hP 0 rfl rfl 13 (by decide) (hw _ m_239) (fun _ h9 => h9) rfl d_M_isBoxed_82 ?_
      refine lv_aload_n hx hb d_M_isBoxed_85 rfl (lv_at hl 1 rfl) ?_
      refine va_get (D := (dC, dI)) (ci := 2) (v := .long (zl ((f_M_cut b w (N 6 ((5 * x) + 1)) (N 6 ((5 * x) + 3)) ((f_M_cut a v (N 6 (5 * x)) (N 6 ((5 * x) + 2)) 0 1 1 1).2.1) ((f_M_cut a v (N 6 (5 * x)) (N 6 ((5 * x) + 2)) 0 1 1 1).2.2.1) ((f_M_cut a v (N 6 (5 * x)) (N 6 ((5 * x) + 2)) 0 1 1 1).2.2.2.1) ((f_M_cut a v (N 6 (5 * x)) (N 6 ((5 * x) + 2)) 0 1 1 1).2.2.2.2)).2.2.1))) (C := R_M) (T := T_M) (N := 17) hx hb hw i_M hown hK hP 0 rfl rfl 14 (by decide) (hw _ m_240) (fun _ h9 => h9) rfl d_M_isBoxed_86 ?_
      refine lv_iload hx hb d_M_isBoxed_89 (lv_at hl 5 rfl) ?_
      refine lv_iload hx hb d_M_isBoxed_91 (lv_at hl 8 rfl) ?_
      refine lv_aload_n hx hb d_M_isBoxed_93 rfl (lv_at hl 1 rfl) ?_
      refine va_get (D := (dC, dI)) (ci := 2) (v := .ref (ad 7)) (C := R_M) (T := T_M) (N := 17) hx hb hw i_M hown hK hP 0 rfl rfl 8 (by decide) (hw _ m_234) (fun _ h9 => h9) rfl d_M_isBoxed_94 ?_
      refine lv_iload hx hb d_M_isBoxed_97 (lv_at hl 0 rfl) ?_
      refine lv_iconst (v := zi 4) hx hb d_M_isBoxed_99 rfl ?_
      have b_12 : zB 4 39 ((5 * x) + 4) := zB.w (zb_add b_1 (zb_c 4)) (by decide) (by decide)
      refine zr_iadd hx hb d_M_isBoxed_100 ?_
      refine zr_iald hx hb hK hP 7 0 (cA := cI) (n := 40) (g := N 6) rfl rfl (i := (5 * x) + 4) (by omega) (by omega) (by decide) d_M_isBoxed_101 ?_
      refine zc_n (va_runS (As := [.long (zl ((f_M_cut b w (N 6 ((5 * x) + 1)) (N 6 ((5 * x) + 3)) ((f_M_cut a v (N 6 (5 * x)) (N 6 ((5 * x) + 2)) 0 1 1 1).2.1) ((f_M_cut a v (N 6 (5 * x)) (N 6 ((5 * x) + 2)) 0 1 1 1).2.2.1) ((f_M_cut a v (N 6 (5 * x)) (N 6 ((5 * x) + 2)) 0 1 1 1).2.2.2.1) ((f_M_cut a v (N 6 (5 * x)) (N 6 ((5 * x) + 2)) 0 1 1 1).2.2.2.2)).2.1)), .long (zl ((f_M_cut b w (N 6 ((5 * x) + 1)) (N 6 ((5 * x) + 3)) ((f_M_cut a v (N 6 (5 * x)) (N 6 ((5 * x) + 2)) 0 1 1 1).2.1) ((f_M_cut a v (N 6 (5 * x)) (N 6 ((5 * x) + 2)) 0 1 1 1).2.2.1) ((f_M_cut a v (N 6 (5 * x)) (N 6 ((5 * x) + 2)) 0 1 1 1).2.2.2.1) ((f_M_cut a v (N 6 (5 * x)) (N 6 ((5 * x) + 2)) 0 1 1 1).2.2.2.2)).2.2.1)), .int (zi d), .int (zi y), .int (zi (N 6 ((5 * x) + 4)))]) (rest := []) ⟨hx, hb, hml, hown, hts⟩ (k_M_isBelow l ((f_M_cut b w (N 6 ((5 * x) + 1)) (N 6 ((5 * x) + 3)) ((f_M_cut a v (N 6 (5 * x)) (N 6 ((5 * x) + 2)) 0 1 1 1).2.1) ((f_M_cut a v (N 6 (5 * x)) (N 6 ((5 * x) + 2)) 0 1 1 1).2.2.1) ((f_M_cut a v (N 6 (5 * x)) (N 6 ((5 * x) + 2)) 0 1 1 1).2.2.2.1) ((f_M_cut a v (N 6 (5 * x)) (N 6 ((5 * x) + 2)) 0 1 1 1).2.2.2.2)).2.1) ((f_M_cut b w (N 6 ((5 * x) + 1)) (N 6 ((5 * x) + 3)) ((f_M_cut a v (N 6 (5 * x)) (N 6 ((5 * x) + 2)) 0 1 1 1).2.1) ((f_M_cut a v (N 6 (5 * x)) (N 6 ((5 * x) + 2)) 0 1 1 1).2.2.1) ((f_M_cut a v (N 6 (5 * x)) (N 6 ((5 * x) + 2)) 0 1 1 1).2.2.2.1) ((f_M_cut a v (N 6 (5 * x)) (N 6 ((5 * x) + 2)) 0 1 1 1).2.2.2.2)).2.2.1) d y (N 6 ((5 * x) + 4)) (zB.w t_9.1 (by decide) (by decide)) (zB.w t_9.2.1 (by decide) (by decide)) (zB.w hb_d (by decide) (by decide)) (zB.w hb_y (by decide) (by decide)) (zB.w (jN_a6 hI ((5 * x) + 4)) (by decide) (by decide)) ) (zcS 5 hts m_317 m_3 m_315 m_316 rfl rfl q_M_isBelow ⟨Nat.le_of_ble_eq_true rfl, Nat.le_of_ble_eq_true rfl⟩) (zp0 [.long (zl ((f_M_cut b w (N 6 ((5 * x) + 1)) (N 6 ((5 * x) + 3)) ((f_M_cut a v (N 6 (5 * x)) (N 6 ((5 * x) + 2)) 0 1 1 1).2.1) ((f_M_cut a v (N 6 (5 * x)) (N 6 ((5 * x) + 2)) 0 1 1 1).2.2.1) ((f_M_cut a v (N 6 (5 * x)) (N 6 ((5 * x) + 2)) 0 1 1 1).2.2.2.1) ((f_M_cut a v (N 6 (5 * x)) (N 6 ((5 * x) + 2)) 0 1 1 1).2.2.2.2)).2.1)), .long (zl ((f_M_cut b w (N 6 ((5 * x) + 1)) (N 6 ((5 * x) + 3)) ((f_M_cut a v (N 6 (5 * x)) (N 6 ((5 * x) + 2)) 0 1 1 1).2.1) ((f_M_cut a v (N 6 (5 * x)) (N 6 ((5 * x) + 2)) 0 1 1 1).2.2.1) ((f_M_cut a v (N 6 (5 * x)) (N 6 ((5 * x) + 2)) 0 1 1 1).2.2.2.1) ((f_M_cut a v (N 6 (5 * x)) (N 6 ((5 * x) + 2)) 0 1 1 1).2.2.2.2)).2.2.1)), .int (zi d), .int (zi y), .int (zi (N 6 ((5 * x) + 4)))]) rfl rfl hl.1 rfl (lv_room (Nat.le_of_ble_eq_true rfl)) d_M_isBoxed_102 ⟨Nat.zero_le _, Nat.zero_le _⟩) ?_
      refine zr_if_ne (tgt := 135) hx hb (zB.I (bb_M_isBelow ((f_M_cut b w (N 6 ((5 * x) + 1)) (N 6 ((5 * x) + 3)) ((f_M_cut a v (N 6 (5 * x)) (N 6 ((5 * x) + 2)) 0 1 1 1).2.1) ((f_M_cut a v (N 6 (5 * x)) (N 6 ((5 * x) + 2)) 0 1 1 1).2.2.1) ((f_M_cut a v (N 6 (5 * x)) (N 6 ((5 * x) + 2)) 0 1 1 1).2.2.2.1) ((f_M_cut a v (N 6 (5 * x)) (N 6 ((5 * x) + 2)) 0 1 1 1).2.2.2.2)).2.1) ((f_M_cut b w (N 6 ((5 * x) + 1)) (N 6 ((5 * x) + 3)) ((f_M_cut a v (N 6 (5 * x)) (N 6 ((5 * x) + 2)) 0 1 1 1).2.1) ((f_M_cut a v (N 6 (5 * x)) (N 6 ((5 * x) + 2)) 0 1 1 1).2.2.1) ((f_M_cut a v (N 6 (5 * x)) (N 6 ((5 * x) + 2)) 0 1 1 1).2.2.2.1) ((f_M_cut a v (N 6 (5 * x)) (N 6 ((5 * x) + 2)) 0 1 1 1).2.2.2.2)).2.2.1) d y (N 6 ((5 * x) + 4))) (by decide) (by decide)) d_M_isBoxed_105 (by decide) (fun c_13 => ?_) (fun c_13 => ?_)
      · replace hq := (if_neg c_13).symm.trans hq
        have r_14 : zB 1 1 (f_M_isBelow ((f_M_cut b w (N 6 ((5 * x) + 1)) (N 6 ((5 * x) + 3)) ((f_M_cut a v (N 6 (5 * x)) (N 6 ((5 * x) + 2)) 0 1 1 1).2.1) ((f_M_cut a v (N 6 (5 * x)) (N 6 ((5 * x) + 2)) 0 1 1 1).2.2.1) ((f_M_cut a v (N 6 (5 * x)) (N 6 ((5 * x) + 2)) 0 1 1 1).2.2.2.1) ((f_M_cut a v (N 6 (5 * x)) (N 6 ((5 * x) + 2)) 0 1 1 1).2.2.2.2)).2.1) ((f_M_cut b w (N 6 ((5 * x) + 1)) (N 6 ((5 * x) + 3)) ((f_M_cut a v (N 6 (5 * x)) (N 6 ((5 * x) + 2)) 0 1 1 1).2.1) ((f_M_cut a v (N 6 (5 * x)) (N 6 ((5 * x) + 2)) 0 1 1 1).2.2.1) ((f_M_cut a v (N 6 (5 * x)) (N 6 ((5 * x) + 2)) 0 1 1 1).2.2.2.1) ((f_M_cut a v (N 6 (5 * x)) (N 6 ((5 * x) + 2)) 0 1 1 1).2.2.2.2)).2.2.1) d y (N 6 ((5 * x) + 4))) := ⟨(by have := (bb_M_isBelow ((f_M_cut b w (N 6 ((5 * x) + 1)) (N 6 ((5 * x) + 3)) ((f_M_cut a v (N 6 (5 * x)) (N 6 ((5 * x) + 2)) 0 1 1 1).2.1) ((f_M_cut a v (N 6 (5 * x)) (N 6 ((5 * x) + 2)) 0 1 1 1).2.2.1) ((f_M_cut a v (N 6 (5 * x)) (N 6 ((5 * x) + 2)) 0 1 1 1).2.2.2.1) ((f_M_cut a v (N 6 (5 * x)) (N 6 ((5 * x) + 2)) 0 1 1 1).2.2.2.2)).2.1) ((f_M_cut b w (N 6 ((5 * x) + 1)) (N 6 ((5 * x) + 3)) ((f_M_cut a v (N 6 (5 * x)) (N 6 ((5 * x) + 2)) 0 1 1 1).2.1) ((f_M_cut a v (N 6 (5 * x)) (N 6 ((5 * x) + 2)) 0 1 1 1).2.2.1) ((f_M_cut a v (N 6 (5 * x)) (N 6 ((5 * x) + 2)) 0 1 1 1).2.2.2.1) ((f_M_cut a v (N 6 (5 * x)) (N 6 ((5 * x) + 2)) 0 1 1 1).2.2.2.2)).2.2.1) d y (N 6 ((5 * x) + 4))).1; omega), (bb_M_isBelow ((f_M_cut b w (N 6 ((5 * x) + 1)) (N 6 ((5 * x) + 3)) ((f_M_cut a v (N 6 (5 * x)) (N 6 ((5 * x) + 2)) 0 1 1 1).2.1) ((f_M_cut a v (N 6 (5 * x)) (N 6 ((5 * x) + 2)) 0 1 1 1).2.2.1) ((f_M_cut a v (N 6 (5 * x)) (N 6 ((5 * x) + 2)) 0 1 1 1).2.2.2.1) ((f_M_cut a v (N 6 (5 * x)) (N 6 ((5 * x) + 2)) 0 1 1 1).2.2.2.2)).2.1) ((f_M_cut b w (N 6 ((5 * x) + 1)) (N 6 ((5 * x) + 3)) ((f_M_cut a v (N 6 (5 * x)) (N 6 ((5 * x) + 2)) 0 1 1 1).2.1) ((f_M_cut a v (N 6 (5 * x)) (N 6 ((5 * x) + 2)) 0 1 1 1).2.2.1) ((f_M_cut a v (N 6 (5 * x)) (N 6 ((5 * x) + 2)) 0 1 1 1).2.2.2.1) ((f_M_cut a v (N 6 (5 * x)) (N 6 ((5 * x) + 2)) 0 1 1 1).2.2.2.2)).2.2.1) d y (N 6 ((5 * x) + 4))).2⟩
        refine lv_iconst (v := zi 1) hx hb d_M_isBoxed_135 rfl ?_
        refine lv_goto (tgt := 140) hx hb d_M_isBoxed_136 (by decide) ?_
        exact zw_z hx hb hr hlocks (zB.w (zb_c 1) (by decide) (by decide)) hq ⟨(f_M_cut b w (N 6 ((5 * x) + 1)) (N 6 ((5 * x) + 3)) ((f_M_cut a v (N 6 (5 * x)) (N 6 ((5 * x) + 2)) 0 1 1 1).2.1) ((f_M_cut a v (N 6 (5 * x)) (N 6 ((5 * x) + 2)) 0 1 1 1).2.2.1) ((f_M_cut a v (N 6 (5 * x)) (N 6 ((5 * x) + 2)) 0 1 1 1).2.2.2.1) ((f_M_cut a v (N 6 (5 * x)) (N 6 ((5 * x) + 2)) 0 1 1 1).2.2.2.2)).2.1, (f_M_cut b w (N 6 ((5 * x) + 1)) (N 6 ((5 * x) + 3)) ((f_M_cut a v (N 6 (5 * x)) (N 6 ((5 * x) + 2)) 0 1 1 1).2.1) ((f_M_cut a v (N 6 (5 * x)) (N 6 ((5 * x) + 2)) 0 1 1 1).2.2.1) ((f_M_cut a v (N 6 (5 * x)) (N 6 ((5 * x) + 2)) 0 1 1 1).2.2.2.1) ((f_M_cut a v (N 6 (5 * x)) (N 6 ((5 * x) + 2)) 0 1 1 1).2.2.2.2)).2.2.1, (f_M_cut b w (N 6 ((5 * x) + 1)) (N 6 ((5 * x) + 3)) ((f_M_cut a v (N 6 (5 * x)) (N 6 ((5 * x) + 2)) 0 1 1 1).2.1) ((f_M_cut a v (N 6 (5 * x)) (N 6 ((5 * x) + 2)) 0 1 1 1).2.2.1) ((f_M_cut a v (N 6 (5 * x)) (N 6 ((5 * x) + 2)) 0 1 1 1).2.2.2.1) ((f_M_cut a v (N 6 (5 * x)) (N 6 ((5 * x) + 2)) 0 1 1 1).2.2.2.2)).2.2.2.1, (f_M_cut b w (N 6 ((5 * x) + 1)) (N 6 ((5 * x) + 3)) ((f_M_cut a v (N 6 (5 * x)) (N 6 ((5 * x) + 2)) 0 1 1 1).2.1) ((f_M_cut a v (N 6 (5 * x)) (N 6 ((5 * x) + 2)) 0 1 1 1).2.2.1) ((f_M_cut a v (N 6 (5 * x)) (N 6 ((5 * x) + 2)) 0 1 1 1).2.2.2.1) ((f_M_cut a v (N 6 (5 * x)) (N 6 ((5 * x) + 2)) 0 1 1 1).2.2.2.2)).2.2.2.2, zB.w t_9.1 (by decide) (by decide), zB.w t_9.2.1 (by decide) (by decide), zB.w t_9.2.2.1 (by decide) (by decide), zB.w t_9.2.2.2 (by decide) (by decide), hP⟩ hS d_M_isBoxed_140
      · replace hq := (if_pos c_13).symm.trans hq
        have r_15 : zB 0 0 (f_M_isBelow ((f_M_cut b w (N 6 ((5 * x) + 1)) (N 6 ((5 * x) + 3)) ((f_M_cut a v (N 6 (5 * x)) (N 6 ((5 * x) + 2)) 0 1 1 1).2.1) ((f_M_cut a v (N 6 (5 * x)) (N 6 ((5 * x) + 2)) 0 1 1 1).2.2.1) ((f_M_cut a v (N 6 (5 * x)) (N 6 ((5 * x) + 2)) 0 1 1 1).2.2.2.1) ((f_M_cut a v (N 6 (5 * x)) (N 6 ((5 * x) + 2)) 0 1 1 1).2.2.2.2)).2.1) ((f_M_cut b w (N 6 ((5 * x) + 1)) (N 6 ((5 * x) + 3)) ((f_M_cut a v (N 6 (5 * x)) (N 6 ((5 * x) + 2)) 0 1 1 1).2.1) ((f_M_cut a v (N 6 (5 * x)) (N 6 ((5 * x) + 2)) 0 1 1 1).2.2.1) ((f_M_cut a v (N 6 (5 * x)) (N 6 ((5 * x) + 2)) 0 1 1 1).2.2.2.1) ((f_M_cut a v (N 6 (5 * x)) (N 6 ((5 * x) + 2)) 0 1 1 1).2.2.2.2)).2.2.1) d y (N 6 ((5 * x) + 4))) := ⟨(Int.le_of_eq c_13.symm), (Int.le_of_eq c_13)⟩
        refine lv_aload_n hx hb d_M_isBoxed_108 rfl (lv_at hl 1 rfl) ?_
        refine va_get (D := (dC, dI)) (ci := 2) (v := .long (zl ((f_M_cut b w (N 6 ((5 * x) + 1)) (N 6 ((5 * x) + 3)) ((f_M_cut a v (N 6 (5 * x)) (N 6 ((5 * x) + 2)) 0 1 1 1).2.1) ((f_M_cut a v (N 6 (5 * x)) (N 6 ((5 * x) + 2)) 0 1 1 1).2.2.1) ((f_M_cut a v (N 6 (5 * x)) (N 6 ((5 * x) + 2)) 0 1 1 1).2.2.2.1) ((f_M_cut a v (N 6 (5 * x)) (N 6 ((5 * x) + 2)) 0 1 1 1).2.2.2.2)).2.2.2.1))) (C := R_M) (T := T_M) (N := 17) hx hb hw i_M hown hK hP 0 rfl rfl 15 (by decide) (hw _ m_241) (fun _ h9 => h9) rfl d_M_isBoxed_109 ?_
        refine lv_aload_n hx hb d_M_isBoxed_112 rfl (lv_at hl 1 rfl) ?_
        refine va_get (D := (dC, dI)) (ci := 2) (v := .long (zl ((f_M_cut b w (N 6 ((5 * x) + 1)) (N 6 ((5 * x) + 3)) ((f_M_cut a v (N 6 (5 * x)) (N 6 ((5 * x) + 2)) 0 1 1 1).2.1) ((f_M_cut a v (N 6 (5 * x)) (N 6 ((5 * x) + 2)) 0 1 1 1).2.2.1) ((f_M_cut a v (N 6 (5 * x)) (N 6 ((5 * x) + 2)) 0 1 1 1).2.2.2.1) ((f_M_cut a v (N 6 (5 * x)) (N 6 ((5 * x) + 2)) 0 1 1 1).2.2.2.2)).2.2.2.2))) (C := R_M) (T := T_M) (N := 17) hx hb hw i_M hown hK hP 0 rfl rfl 16 (by decide) (hw _ m_242) (fun _ h9 => h9) rfl d_M_isBoxed_113 ?_
        refine lv_iload hx hb d_M_isBoxed_116 (lv_at hl 5 rfl) ?_
        refine lv_iload hx hb d_M_isBoxed_118 (lv_at hl 8 rfl) ?_
        refine lv_aload_n hx hb d_M_isBoxed_120 rfl (lv_at hl 1 rfl) ?_
        refine va_get (D := (dC, dI)) (ci := 2) (v := .ref (ad 7)) (C := R_M) (T := T_M) (N := 17) hx hb hw i_M hown hK hP 0 rfl rfl 8 (by decide) (hw _ m_234) (fun _ h9 => h9) rfl d_M_isBoxed_121 ?_
        refine lv_iload hx hb d_M_isBoxed_124 (lv_at hl 0 rfl) ?_
        refine lv_iconst (v := zi 4) hx hb d_M_isBoxed_126 rfl ?_
        refine zr_iadd hx hb d_M_isBoxed_127 ?_
        refine zr_iald hx hb hK hP 7 0 (cA := cI) (n := 40) (g := N 6) rfl rfl (i := (5 * x) + 4) (by omega) (by omega) (by decide) d_M_isBoxed_128 ?_
        refine zc_n (va_runS (As := [.long (zl ((f_M_cut b w (N 6 ((5 * x) + 1)) (N 6 ((5 * x) + 3)) ((f_M_cut a v (N 6 (5 * x)) (N 6 ((5 * x) + 2)) 0 1 1 1).2.1) ((f_M_cut a v (N 6 (5 * x)) (N 6 ((5 * x) + 2)) 0 1 1 1).2.2.1) ((f_M_cut a v (N 6 (5 * x)) (N 6 ((5 * x) + 2)) 0 1 1 1).2.2.2.1) ((f_M_cut a v (N 6 (5 * x)) (N 6 ((5 * x) + 2)) 0 1 1 1).2.2.2.2)).2.2.2.1)), .long (zl ((f_M_cut b w (N 6 ((5 * x) + 1)) (N 6 ((5 * x) + 3)) ((f_M_cut a v (N 6 (5 * x)) (N 6 ((5 * x) + 2)) 0 1 1 1).2.1) ((f_M_cut a v (N 6 (5 * x)) (N 6 ((5 * x) + 2)) 0 1 1 1).2.2.1) ((f_M_cut a v (N 6 (5 * x)) (N 6 ((5 * x) + 2)) 0 1 1 1).2.2.2.1) ((f_M_cut a v (N 6 (5 * x)) (N 6 ((5 * x) + 2)) 0 1 1 1).2.2.2.2)).2.2.2.2)), .int (zi d), .int (zi y), .int (zi (N 6 ((5 * x) + 4)))]) (rest := []) ⟨hx, hb, hml, hown, hts⟩ (k_M_isBelow l ((f_M_cut b w (N 6 ((5 * x) + 1)) (N 6 ((5 * x) + 3)) ((f_M_cut a v (N 6 (5 * x)) (N 6 ((5 * x) + 2)) 0 1 1 1).2.1) ((f_M_cut a v (N 6 (5 * x)) (N 6 ((5 * x) + 2)) 0 1 1 1).2.2.1) ((f_M_cut a v (N 6 (5 * x)) (N 6 ((5 * x) + 2)) 0 1 1 1).2.2.2.1) ((f_M_cut a v (N 6 (5 * x)) (N 6 ((5 * x) + 2)) 0 1 1 1).2.2.2.2)).2.2.2.1) ((f_M_cut b w (N 6 ((5 * x) + 1)) (N 6 ((5 * x) + 3)) ((f_M_cut a v (N 6 (5 * x)) (N 6 ((5 * x) + 2)) 0 1 1 1).2.1) ((f_M_cut a v (N 6 (5 * x)) (N 6 ((5 * x) + 2)) 0 1 1 1).2.2.1) ((f_M_cut a v (N 6 (5 * x)) (N 6 ((5 * x) + 2)) 0 1 1 1).2.2.2.1) ((f_M_cut a v (N 6 (5 * x)) (N 6 ((5 * x) + 2)) 0 1 1 1).2.2.2.2)).2.2.2.2) d y (N 6 ((5 * x) + 4)) (zB.w t_9.2.2.1 (by decide) (by decide)) (zB.w t_9.2.2.2 (by decide) (by decide)) (zB.w hb_d (by decide) (by decide)) (zB.w hb_y (by decide) (by decide)) (zB.w (jN_a6 hI ((5 * x) + 4)) (by decide) (by decide)) ) (zcS 5 hts m_317 m_3 m_315 m_316 rfl rfl q_M_isBelow ⟨Nat.le_of_ble_eq_true rfl, Nat.le_of_ble_eq_true rfl⟩) (zp0 [.long (zl ((f_M_cut b w (N 6 ((5 * x) + 1)) (N 6 ((5 * x) + 3)) ((f_M_cut a v (N 6 (5 * x)) (N 6 ((5 * x) + 2)) 0 1 1 1).2.1) ((f_M_cut a v (N 6 (5 * x)) (N 6 ((5 * x) + 2)) 0 1 1 1).2.2.1) ((f_M_cut a v (N 6 (5 * x)) (N 6 ((5 * x) + 2)) 0 1 1 1).2.2.2.1) ((f_M_cut a v (N 6 (5 * x)) (N 6 ((5 * x) + 2)) 0 1 1 1).2.2.2.2)).2.2.2.1)), .long (zl ((f_M_cut b w (N 6 ((5 * x) + 1)) (N 6 ((5 * x) + 3)) ((f_M_cut a v (N 6 (5 * x)) (N 6 ((5 * x) + 2)) 0 1 1 1).2.1) ((f_M_cut a v (N 6 (5 * x)) (N 6 ((5 * x) + 2)) 0 1 1 1).2.2.1) ((f_M_cut a v (N 6 (5 * x)) (N 6 ((5 * x) + 2)) 0 1 1 1).2.2.2.1) ((f_M_cut a v (N 6 (5 * x)) (N 6 ((5 * x) + 2)) 0 1 1 1).2.2.2.2)).2.2.2.2)), .int (zi d), .int (zi y), .int (zi (N 6 ((5 * x) + 4)))]) rfl rfl hl.1 rfl (lv_room (Nat.le_of_ble_eq_true rfl)) d_M_isBoxed_129 ⟨Nat.zero_le _, Nat.zero_le _⟩) ?_
        refine zr_if_eq (tgt := 139) hx hb (zB.I (bb_M_isBelow ((f_M_cut b w (N 6 ((5 * x) + 1)) (N 6 ((5 * x) + 3)) ((f_M_cut a v (N 6 (5 * x)) (N 6 ((5 * x) + 2)) 0 1 1 1).2.1) ((f_M_cut a v (N 6 (5 * x)) (N 6 ((5 * x) + 2)) 0 1 1 1).2.2.1) ((f_M_cut a v (N 6 (5 * x)) (N 6 ((5 * x) + 2)) 0 1 1 1).2.2.2.1) ((f_M_cut a v (N 6 (5 * x)) (N 6 ((5 * x) + 2)) 0 1 1 1).2.2.2.2)).2.2.2.1) ((f_M_cut b w (N 6 ((5 * x) + 1)) (N 6 ((5 * x) + 3)) ((f_M_cut a v (N 6 (5 * x)) (N 6 ((5 * x) + 2)) 0 1 1 1).2.1) ((f_M_cut a v (N 6 (5 * x)) (N 6 ((5 * x) + 2)) 0 1 1 1).2.2.1) ((f_M_cut a v (N 6 (5 * x)) (N 6 ((5 * x) + 2)) 0 1 1 1).2.2.2.1) ((f_M_cut a v (N 6 (5 * x)) (N 6 ((5 * x) + 2)) 0 1 1 1).2.2.2.2)).2.2.2.2) d y (N 6 ((5 * x) + 4))) (by decide) (by decide)) d_M_isBoxed_132 (by decide) (fun c_16 => ?_) (fun c_16 => ?_)
        · replace hq := (if_pos c_16).symm.trans hq
          have r_17 : zB 0 0 (f_M_isBelow ((f_M_cut b w (N 6 ((5 * x) + 1)) (N 6 ((5 * x) + 3)) ((f_M_cut a v (N 6 (5 * x)) (N 6 ((5 * x) + 2)) 0 1 1 1).2.1) ((f_M_cut a v (N 6 (5 * x)) (N 6 ((5 * x) + 2)) 0 1 1 1).2.2.1) ((f_M_cut a v (N 6 (5 * x)) (N 6 ((5 * x) + 2)) 0 1 1 1).2.2.2.1) ((f_M_cut a v (N 6 (5 * x)) (N 6 ((5 * x) + 2)) 0 1 1 1).2.2.2.2)).2.2.2.1) ((f_M_cut b w (N 6 ((5 * x) + 1)) (N 6 ((5 * x) + 3)) ((f_M_cut a v (N 6 (5 * x)) (N 6 ((5 * x) + 2)) 0 1 1 1).2.1) ((f_M_cut a v (N 6 (5 * x)) (N 6 ((5 * x) + 2)) 0 1 1 1).2.2.1) ((f_M_cut a v (N 6 (5 * x)) (N 6 ((5 * x) + 2)) 0 1 1 1).2.2.2.1) ((f_M_cut a v (N 6 (5 * x)) (N 6 ((5 * x) + 2)) 0 1 1 1).2.2.2.2)).2.2.2.2) d y (N 6 ((5 * x) + 4))) := ⟨(Int.le_of_eq c_16.symm), (Int.le_of_eq c_16)⟩
          refine lv_iconst (v := zi 0) hx hb d_M_isBoxed_139 rfl ?_
          exact zw_z hx hb hr hlocks (zB.w (zb_c 0) (by decide) (by decide)) hq ⟨(f_M_cut b w (N 6 ((5 * x) + 1)) (N 6 ((5 * x) + 3)) ((f_M_cut a v (N 6 (5 * x)) (N 6 ((5 * x) + 2)) 0 1 1 1).2.1) ((f_M_cut a v (N 6 (5 * x)) (N 6 ((5 * x) + 2)) 0 1 1 1).2.2.1) ((f_M_cut a v (N 6 (5 * x)) (N 6 ((5 * x) + 2)) 0 1 1 1).2.2.2.1) ((f_M_cut a v (N 6 (5 * x)) (N 6 ((5 * x) + 2)) 0 1 1 1).2.2.2.2)).2.1, (f_M_cut b w (N 6 ((5 * x) + 1)) (N 6 ((5 * x) + 3)) ((f_M_cut a v (N 6 (5 * x)) (N 6 ((5 * x) + 2)) 0 1 1 1).2.1) ((f_M_cut a v (N 6 (5 * x)) (N 6 ((5 * x) + 2)) 0 1 1 1).2.2.1) ((f_M_cut a v (N 6 (5 * x)) (N 6 ((5 * x) + 2)) 0 1 1 1).2.2.2.1) ((f_M_cut a v (N 6 (5 * x)) (N 6 ((5 * x) + 2)) 0 1 1 1).2.2.2.2)).2.2.1, (f_M_cut b w (N 6 ((5 * x) + 1)) (N 6 ((5 * x) + 3)) ((f_M_cut a v (N 6 (5 * x)) (N 6 ((5 * x) + 2)) 0 1 1 1).2.1) ((f_M_cut a v (N 6 (5 * x)) (N 6 ((5 * x) + 2)) 0 1 1 1).2.2.1) ((f_M_cut a v (N 6 (5 * x)) (N 6 ((5 * x) + 2)) 0 1 1 1).2.2.2.1) ((f_M_cut a v (N 6 (5 * x)) (N 6 ((5 * x) + 2)) 0 1 1 1).2.2.2.2)).2.2.2.1, (f_M_cut b w (N 6 ((5 * x) + 1)) (N 6 ((5 * x) + 3)) ((f_M_cut a v (N 6 (5 * x)) (N 6 ((5 * x) + 2)) 0 1 1 1).2.1) ((f_M_cut a v (N 6 (5 * x)) (N 6 ((5 * x) + 2)) 0 1 1 1).2.2.1) ((f_M_cut a v (N 6 (5 * x)) (N 6 ((5 * x) + 2)) 0 1 1 1).2.2.2.1) ((f_M_cut a v (N 6 (5 * x)) (N 6 ((5 * x) + 2)) 0 1 1 1).2.2.2.2)).2.2.2.2, zB.w t_9.1 (by decide) (by decide), zB.w t_9.2.1 (by decide) (by decide), zB.w t_9.2.2.1 (by decide) (by decide), zB.w t_9.2.2.2 (by decide) (by decide), hP⟩ hS d_M_isBoxed_140
        · replace hq := (if_neg c_16).symm.trans hq
          have r_18 : zB 1 1 (f_M_isBelow ((f_M_cut b w (N 6 ((5 * x) + 1)) (N 6 ((5 * x) + 3)) ((f_M_cut a v (N 6 (5 * x)) (N 6 ((5 * x) + 2)) 0 1 1 1).2.1) ((f_M_cut a v (N 6 (5 * x)) (N 6 ((5 * x) + 2)) 0 1 1 1).2.2.1) ((f_M_cut a v (N 6 (5 * x)) (N 6 ((5 * x) + 2)) 0 1 1 1).2.2.2.1) ((f_M_cut a v (N 6 (5 * x)) (N 6 ((5 * x) + 2)) 0 1 1 1).2.2.2.2)).2.2.2.1) ((f_M_cut b w (N 6 ((5 * x) + 1)) (N 6 ((5 * x) + 3)) ((f_M_cut a v (N 6 (5 * x)) (N 6 ((5 * x) + 2)) 0 1 1 1).2.1) ((f_M_cut a v (N 6 (5 * x)) (N 6 ((5 * x) + 2)) 0 1 1 1).2.2.1) ((f_M_cut a v (N 6 (5 * x)) (N 6 ((5 * x) + 2)) 0 1 1 1).2.2.2.1) ((f_M_cut a v (N 6 (5 * x)) (N 6 ((5 * x) + 2)) 0 1 1 1).2.2.2.2)).2.2.2.2) d y (N 6 ((5 * x) + 4))) := ⟨(by have := (bb_M_isBelow ((f_M_cut b w (N 6 ((5 * x) + 1)) (N 6 ((5 * x) + 3)) ((f_M_cut a v (N 6 (5 * x)) (N 6 ((5 * x) + 2)) 0 1 1 1).2.1) ((f_M_cut a v (N 6 (5 * x)) (N 6 ((5 * x) + 2)) 0 1 1 1).2.2.1) ((f_M_cut a v (N 6 (5 * x)) (N 6 ((5 * x) + 2)) 0 1 1 1).2.2.2.1) ((f_M_cut a v (N 6 (5 * x)) (N 6 ((5 * x) + 2)) 0 1 1 1).2.2.2.2)).2.2.2.1) ((f_M_cut b w (N 6 ((5 * x) + 1)) (N 6 ((5 * x) + 3)) ((f_M_cut a v (N 6 (5 * x)) (N 6 ((5 * x) + 2)) 0 1 1 1).2.1) ((f_M_cut a v (N 6 (5 * x)) (N 6 ((5 * x) + 2)) 0 1 1 1).2.2.1) ((f_M_cut a v (N 6 (5 * x)) (N 6 ((5 * x) + 2)) 0 1 1 1).2.2.2.1) ((f_M_cut a v (N 6 (5 * x)) (N 6 ((5 * x) + 2)) 0 1 1 1).2.2.2.2)).2.2.2.2) d y (N 6 ((5 * x) + 4))).1; omega), (bb_M_isBelow ((f_M_cut b w (N 6 ((5 * x) + 1)) (N 6 ((5 * x) + 3)) ((f_M_cut a v (N 6 (5 * x)) (N 6 ((5 * x) + 2)) 0 1 1 1).2.1) ((f_M_cut a v (N 6 (5 * x)) (N 6 ((5 * x) + 2)) 0 1 1 1).2.2.1) ((f_M_cut a v (N 6 (5 * x)) (N 6 ((5 * x) + 2)) 0 1 1 1).2.2.2.1) ((f_M_cut a v (N 6 (5 * x)) (N 6 ((5 * x) + 2)) 0 1 1 1).2.2.2.2)).2.2.2.1) ((f_M_cut b w (N 6 ((5 * x) + 1)) (N 6 ((5 * x) + 3)) ((f_M_cut a v (N 6 (5 * x)) (N 6 ((5 * x) + 2)) 0 1 1 1).2.1) ((f_M_cut a v (N 6 (5 * x)) (N 6 ((5 * x) + 2)) 0 1 1 1).2.2.1) ((f_M_cut a v (N 6 (5 * x)) (N 6 ((5 * x) + 2)) 0 1 1 1).2.2.2.1) ((f_M_cut a v (N 6 (5 * x)) (N 6 ((5 * x) + 2)) 0 1 1 1).2.2.2.2)).2.2.2.2) d y (N 6 ((5 * x) + 4))).2⟩
          refine lv_iconst (v := zi 1) hx hb d_M_isBoxed_135 rfl ?_
          refine lv_goto (tgt := 140) hx hb d_M_isBoxed_136 (by decide) ?_
          exact zw_z hx hb hr hlocks (zB.w (zb_c 1) (by decide) (by decide)) hq ⟨(f_M_cut b w (N 6 ((5 * x) + 1)) (N 6 ((5 * x) + 3)) ((f_M_cut a v (N 6 (5 * x)) (N 6 ((5 * x) + 2)) 0 1 1 1).2.1) ((f_M_cut a v (N 6 (5 * x)) (N 6 ((5 * x) + 2)) 0 1 1 1).2.2.1) ((f_M_cut a v (N 6 (5 * x)) (N 6 ((5 * x) + 2)) 0 1 1 1).2.2.2.1) ((f_M_cut a v (N 6 (5 * x)) (N 6 ((5 * x) + 2)) 0 1 1 1).2.2.2.2)).2.1, (f_M_cut b w (N 6 ((5 * x) + 1)) (N 6 ((5 * x) + 3)) ((f_M_cut a v (N 6 (5 * x)) (N 6 ((5 * x) + 2)) 0 1 1 1).2.1) ((f_M_cut a v (N 6 (5 * x)) (N 6 ((5 * x) + 2)) 0 1 1 1).2.2.1) ((f_M_cut a v (N 6 (5 * x)) (N 6 ((5 * x) + 2)) 0 1 1 1).2.2.2.1) ((f_M_cut a v (N 6 (5 * x)) (N 6 ((5 * x) + 2)) 0 1 1 1).2.2.2.2)).2.2.1, (f_M_cut b w (N 6 ((5 * x) + 1)) (N 6 ((5 * x) + 3)) ((f_M_cut a v (N 6 (5 * x)) (N 6 ((5 * x) + 2)) 0 1 1 1).2.1) ((f_M_cut a v (N 6 (5 * x)) (N 6 ((5 * x) + 2)) 0 1 1 1).2.2.1) ((f_M_cut a v (N 6 (5 * x)) (N 6 ((5 * x) + 2)) 0 1 1 1).2.2.2.1) ((f_M_cut a v (N 6 (5 * x)) (N 6 ((5 * x) + 2)) 0 1 1 1).2.2.2.2)).2.2.2.1, (f_M_cut b w (N 6 ((5 * x) + 1)) (N 6 ((5 * x) + 3)) ((f_M_cut a v (N 6 (5 * x)) (N 6 ((5 * x) + 2)) 0 1 1 1).2.1) ((f_M_cut a v (N 6 (5 * x)) (N 6 ((5 * x) + 2)) 0 1 1 1).2.2.1) ((f_M_cut a v (N 6 (5 * x)) (N 6 ((5 * x) + 2)) 0 1 1 1).2.2.2.1) ((f_M_cut a v (N 6 (5 * x)) (N 6 ((5 * x) + 2)) 0 1 1 1).2.2.2.2)).2.2.2.2, zB.w t_9.1 (by decide) (by decide), zB.w t_9.2.1 (by decide) (by decide), zB.w t_9.2.2.1 (by decide) (by decide), zB.w t_9.2.2.2 (by decide) (by decide), hP⟩ hS d_M_isBoxed_140
    · replace hq := (if_pos c_10).symm.trans hq
      have r_19 : zB 0 0 ((f_M_cut b w (N 6 ((5 * x) + 1)) (N 6 ((5 * x) + 3)) ((f_M_cut a v (N 6 (5 * x)) (N 6 ((5 * x) + 2)) 0 1 1 1).2.1) ((f_M_cut a v (N 6 (5 * x)) (N 6 ((5 * x) + 2)) 0 1 1 1).2.2.1) ((f_M_cut a v (N 6 (5 * x)) (N 6 ((5 * x) + 2)) 0 1 1 1).2.2.2.1) ((f_M_cut a v (N 6 (5 * x)) (N 6 ((5 * x) + 2)) 0 1 1 1).2.2.2.2)).1) := ⟨(Int.le_of_eq c_10.symm), (Int.le_of_eq c_10)⟩
      refine lv_iconst (v := zi 0) hx hb d_M_isBoxed_79 rfl ?_
      exact zw_z hx hb hr hlocks (zB.w (zb_c 0) (by decide) (by decide)) hq ⟨(f_M_cut b w (N 6 ((5 * x) + 1)) (N 6 ((5 * x) + 3)) ((f_M_cut a v (N 6 (5 * x)) (N 6 ((5 * x) + 2)) 0 1 1 1).2.1) ((f_M_cut a v (N 6 (5 * x)) (N 6 ((5 * x) + 2)) 0 1 1 1).2.2.1) ((f_M_cut a v (N 6 (5 * x)) (N 6 ((5 * x) + 2)) 0 1 1 1).2.2.2.1) ((f_M_cut a v (N 6 (5 * x)) (N 6 ((5 * x) + 2)) 0 1 1 1).2.2.2.2)).2.1, (f_M_cut b w (N 6 ((5 * x) + 1)) (N 6 ((5 * x) + 3)) ((f_M_cut a v (N 6 (5 * x)) (N 6 ((5 * x) + 2)) 0 1 1 1).2.1) ((f_M_cut a v (N 6 (5 * x)) (N 6 ((5 * x) + 2)) 0 1 1 1).2.2.1) ((f_M_cut a v (N 6 (5 * x)) (N 6 ((5 * x) + 2)) 0 1 1 1).2.2.2.1) ((f_M_cut a v (N 6 (5 * x)) (N 6 ((5 * x) + 2)) 0 1 1 1).2.2.2.2)).2.2.1, (f_M_cut b w (N 6 ((5 * x) + 1)) (N 6 ((5 * x) + 3)) ((f_M_cut a v (N 6 (5 * x)) (N 6 ((5 * x) + 2)) 0 1 1 1).2.1) ((f_M_cut a v (N 6 (5 * x)) (N 6 ((5 * x) + 2)) 0 1 1 1).2.2.1) ((f_M_cut a v (N 6 (5 * x)) (N 6 ((5 * x) + 2)) 0 1 1 1).2.2.2.1) ((f_M_cut a v (N 6 (5 * x)) (N 6 ((5 * x) + 2)) 0 1 1 1).2.2.2.2)).2.2.2.1, (f_M_cut b w (N 6 ((5 * x) + 1)) (N 6 ((5 * x) + 3)) ((f_M_cut a v (N 6 (5 * x)) (N 6 ((5 * x) + 2)) 0 1 1 1).2.1) ((f_M_cut a v (N 6 (5 * x)) (N 6 ((5 * x) + 2)) 0 1 1 1).2.2.1) ((f_M_cut a v (N 6 (5 * x)) (N 6 ((5 * x) + 2)) 0 1 1 1).2.2.2.1) ((f_M_cut a v (N 6 (5 * x)) (N 6 ((5 * x) + 2)) 0 1 1 1).2.2.2.2)).2.2.2.2, zB.w t_9.1 (by decide) (by decide), zB.w t_9.2.1 (by decide) (by decide), zB.w t_9.2.2.1 (by decide) (by decide), zB.w t_9.2.2.2 (by decide) (by decide), hP⟩ hS d_M_isBoxed_80
def f_M_interrupter_g (N : Nat → Int → Int) (a : Int) (b : Int) (z : Int) : Nat → Int → Int
  | 0, _ => 0
  | k + 1, i => if i < a then (if (f_M_isAbove N a b i) = 0 then (f_M_interrupter_g N a b z k (i + 1)) else (100 + i)) else (z)
theorem f_M_interrupter_g_s (N : Nat → Int → Int) (a : Int) (b : Int) (z : Int) (k : Nat) (i : Int) : f_M_interrupter_g N a b z (k + 1) i = (if i < a then (if (f_M_isAbove N a b i) = 0 then (f_M_interrupter_g N a b z k (i + 1)) else (100 + i)) else (z)) := rfl
def f_M_interrupter_b (N : Nat → Int → Int) (a : Int) (b : Int) (z : Int) : Nat → Int → Int
  | 0, _ => 0
  | k + 1, i => if i < a then (if (f_M_isBanked N a b i) = 0 then (f_M_interrupter_b N a b z k (i + 1)) else (200 + i)) else (z)
theorem f_M_interrupter_b_s (N : Nat → Int → Int) (a : Int) (b : Int) (z : Int) (k : Nat) (i : Int) : f_M_interrupter_b N a b z (k + 1) i = (if i < a then (if (f_M_isBanked N a b i) = 0 then (f_M_interrupter_b N a b z k (i + 1)) else (200 + i)) else (z)) := rfl
def f_M_interrupter_x (N : Nat → Int → Int) (a : Int) (b : Int) (z : Int) : Nat → Int → Int
  | 0, _ => 0
  | k + 1, i => if i < (N 7 1) then (if (f_M_isBoxed N i (N 0 a) (N 1 a) ((N 2 a) + (N 7 2)) (N 0 b) (N 1 b) ((N 2 b) + (N 7 3))) = 0 then (f_M_interrupter_x N a b z k (i + 1)) else (300 + i)) else (z)
theorem f_M_interrupter_x_s (N : Nat → Int → Int) (a : Int) (b : Int) (z : Int) (k : Nat) (i : Int) : f_M_interrupter_x N a b z (k + 1) i = (if i < (N 7 1) then (if (f_M_isBoxed N i (N 0 a) (N 1 a) ((N 2 a) + (N 7 2)) (N 0 b) (N 1 b) ((N 2 b) + (N 7 3))) = 0 then (f_M_interrupter_x N a b z k (i + 1)) else (300 + i)) else (z)) := rfl
def f_M_interrupter_g2 (N : Nat → Int → Int) (a : Int) (b : Int) (z : Int) : Nat → Int → Int
  | 0, _ => 0
  | k + 1, i => if i < b then (if (f_M_isAbove N a b i) = 0 then (f_M_interrupter_g2 N a b z k (i + 1)) else (100 + i)) else (z)
theorem f_M_interrupter_g2_s (N : Nat → Int → Int) (a : Int) (b : Int) (z : Int) (k : Nat) (i : Int) : f_M_interrupter_g2 N a b z (k + 1) i = (if i < b then (if (f_M_isAbove N a b i) = 0 then (f_M_interrupter_g2 N a b z k (i + 1)) else (100 + i)) else (z)) := rfl
def f_M_interrupter_b2 (N : Nat → Int → Int) (a : Int) (b : Int) (z : Int) : Nat → Int → Int
  | 0, _ => 0
  | k + 1, i => if i < b then (if (f_M_isBanked N a b i) = 0 then (f_M_interrupter_b2 N a b z k (i + 1)) else (200 + i)) else (z)
theorem f_M_interrupter_b2_s (N : Nat → Int → Int) (a : Int) (b : Int) (z : Int) (k : Nat) (i : Int) : f_M_interrupter_b2 N a b z (k + 1) i = (if i < b then (if (f_M_isBanked N a b i) = 0 then (f_M_interrupter_b2 N a b z k (i + 1)) else (200 + i)) else (z)) := rfl
def f_M_interrupter_x2 (N : Nat → Int → Int) (a : Int) (b : Int) (z : Int) : Nat → Int → Int
  | 0, _ => 0
  | k + 1, i => if i < (N 7 1) then (if (f_M_isBoxed N i (N 0 a) (N 1 a) ((N 2 a) + (N 7 2)) (N 0 b) (N 1 b) ((N 2 b) + (N 7 3))) = 0 then (f_M_interrupter_x2 N a b z k (i + 1)) else (300 + i)) else (z)
theorem f_M_interrupter_x2_s (N : Nat → Int → Int) (a : Int) (b : Int) (z : Int) (k : Nat) (i : Int) : f_M_interrupter_x2 N a b z (k + 1) i = (if i < (N 7 1) then (if (f_M_isBoxed N i (N 0 a) (N 1 a) ((N 2 a) + (N 7 2)) (N 0 b) (N 1 b) ((N 2 b) + (N 7 3))) = 0 then (f_M_interrupter_x2 N a b z k (i + 1)) else (300 + i)) else (z)) := rfl
def f_M_interrupter (N : Nat → Int → Int) (a b : Int) : Int := if a < b then (f_M_interrupter_g2 N a b (f_M_interrupter_b2 N a b (f_M_interrupter_x2 N a b (0) 9 0) 61 (a + 1)) 61 (a + 1)) else (f_M_interrupter_g N a b (f_M_interrupter_b N a b (f_M_interrupter_x N a b (0) 9 0) 61 (b + 1)) 61 (b + 1))
theorem br_M_interrupter (N : Nat → Int → Int) (a b : Int) (hI : jN N) (ha : zB 0 59 a) (hb : zB 0 59 b) : zB 0 400 (f_M_interrupter N a b) := by
  obtain ⟨ha1, ha2⟩ := id ha
  obtain ⟨hb1, hb2⟩ := id hb
  have hz := (jN_s1 hI).2
  have keyg : ∀ (z : Int), zB 0 400 z → ∀ (k : Nat) (i : Int), zB 1 60 i → zB 0 400 (f_M_interrupter_g N a b z k i) := by
    intro z hz k
    induction k with
    | zero => intro i h; show zB 0 400 0; exact ⟨by decide, by decide⟩
    | succ k ih =>
      intro i h
      obtain ⟨h1, h2⟩ := id h
      rw [f_M_interrupter_g_s]
      repeat' split
      all_goals first | exact hz | exact ⟨by omega, by omega⟩ | exact ih _ ⟨by omega, by omega⟩
  have keyb : ∀ (z : Int), zB 0 400 z → ∀ (k : Nat) (i : Int), zB 1 60 i → zB 0 400 (f_M_interrupter_b N a b z k i) := by
    intro z hz k
    induction k with
    | zero => intro i h; show zB 0 400 0; exact ⟨by decide, by decide⟩
    | succ k ih =>
      intro i h
      obtain ⟨h1, h2⟩ := id h
      rw [f_M_interrupter_b_s]
      repeat' split
      all_goals first | exact hz | exact ⟨by omega, by omega⟩ | exact ih _ ⟨by omega, by omega⟩
  have keyx : ∀ (z : Int), zB 0 400 z → ∀ (k : Nat) (i : Int), zB 0 8 i → zB 0 400 (f_M_interrupter_x N a b z k i) := by
    intro z hz k
    induction k with
    | zero => intro i h; show zB 0 400 0; exact ⟨by decide, by decide⟩
    | succ k ih =>
      intro i h
      obtain ⟨h1, h2⟩ := id h
      rw [f_M_interrupter_x_s]
      repeat' split
      all_goals first | exact hz | exact ⟨by omega, by omega⟩ | exact ih _ ⟨by omega, by omega⟩
  have keyg2 : ∀ (z : Int), zB 0 400 z → ∀ (k : Nat) (i : Int), zB 1 60 i → zB 0 400 (f_M_interrupter_g2 N a b z k i) := by
    intro z hz k
    induction k with
    | zero => intro i h; show zB 0 400 0; exact ⟨by decide, by decide⟩
    | succ k ih =>
      intro i h
      obtain ⟨h1, h2⟩ := id h
      rw [f_M_interrupter_g2_s]
      repeat' split
      all_goals first | exact hz | exact ⟨by omega, by omega⟩ | exact ih _ ⟨by omega, by omega⟩
  have keyb2 : ∀ (z : Int), zB 0 400 z → ∀ (k : Nat) (i : Int), zB 1 60 i → zB 0 400 (f_M_interrupter_b2 N a b z k i) := by
    intro z hz k
    induction k with
    | zero => intro i h; show zB 0 400 0; exact ⟨by decide, by decide⟩
    | succ k ih =>
      intro i h
      obtain ⟨h1, h2⟩ := id h
      rw [f_M_interrupter_b2_s]
      repeat' split
      all_goals first | exact hz | exact ⟨by omega, by omega⟩ | exact ih _ ⟨by omega, by omega⟩
  have keyx2 : ∀ (z : Int), zB 0 400 z → ∀ (k : Nat) (i : Int), zB 0 8 i → zB 0 400 (f_M_interrupter_x2 N a b z k i) := by
    intro z hz k
    induction k with
    | zero => intro i h; show zB 0 400 0; exact ⟨by decide, by decide⟩
    | succ k ih =>
      intro i h
      obtain ⟨h1, h2⟩ := id h
      rw [f_M_interrupter_x2_s]
      repeat' split
      all_goals first | exact hz | exact ⟨by omega, by omega⟩ | exact ih _ ⟨by omega, by omega⟩
  unfold f_M_interrupter
  split
  · exact keyg2 _ (keyb2 _ (keyx2 _ ⟨by decide, by decide⟩ _ _ ⟨by decide, by decide⟩) _ _ ⟨by omega, by omega⟩) _ _ ⟨by omega, by omega⟩
  · exact keyg _ (keyb _ (keyx _ ⟨by decide, by decide⟩ _ _ ⟨by decide, by decide⟩) _ _ ⟨by omega, by omega⟩) _ _ ⟨by omega, by omega⟩
set_option maxHeartbeats 4000000 in
set_option maxRecDepth 100000 in
theorem k_M_interrupter (l : Launch) (dC : Nat → ClassId) (dI : Nat → Nat → Nat) (ad : Nat → Nat) (cI : ClassId) (N : Nat → Int → Int) (k0 k1 k2 k3 : Int) (hI : jN N) (hj : zJ 8 ad) (hb_k0 : zB (-115000) 115000 k0) (hb_k1 : zB (-115000) 115000 k1) (hb_k2 : zB (-115000) 115000 k2) (hb_k3 : zB (-115000) 115000 k3) (a b : Int) (hb_a : zB 0 59 a) (hb_b : zB 0 59 b) : Met l y_M_interrupter (Cond.code y_M_interrupter c_M_interrupter 6 (some .int) :: zT) { frames := 3, cells := 0, slots := 0, locals := 71 } (va_Pc ([.ref (ad 0), .int (zi a), .int (zi b)] : List Value) (zWM dC dI ad cI N k0 k1 k2 k3)) (zQ (some (.int (zi (f_M_interrupter N a b)))) (fun H => ∃ k0 k1 k2 k3 : Int, zB (-115000) 115000 k0 ∧ zB (-115000) 115000 k1 ∧ zB (-115000) 115000 k2 ∧ zB (-115000) 115000 k3 ∧ va_P (dC, dI) classes (wM ad cI N k0 k1 k2 k3) H) (zAM ad)) 0 0 (zAM ad) := by
  refine zh (cc := c_M_interrupter) (C := R_M) (by decide) rfl rfl (Nat.le_of_ble_eq_true rfl) ?_
  intro p e s m below meth c ls hx hb hr hlocks hml hown hname hts hl hB
  have hw : ∀ w9 ∈ zT, w9.before ([.ref (ad 0), .int (zi a), .int (zi b)] : List Value).toArray s = true := fun w9 h => hts w9 (List.mem_cons_of_mem _ h)
  obtain ⟨hP, hK⟩ := hB
  obtain ⟨hn0, hn1⟩ := id (jN_s0 hI)
  have hD := zDM hj cI
  have hS : va_S (zAM ad) s.heap s.heap [] := va_S.rf
  obtain ⟨hz0, hz1⟩ := id (jN_s1 hI)
  obtain ⟨hl_a, hh_a⟩ := id hb_a
  obtain ⟨hl_b, hh_b⟩ := id hb_b
  generalize hq : f_M_interrupter N a b = r
  unfold f_M_interrupter at hq
  replace hl : lv_has ls 6 [(0, .ref (ad 0)), (1, .int (zi a)), (2, .int (zi b))] := hl
  refine lv_iload_n hx hb d_M_interrupter_0 rfl (lv_at hl 1 rfl) ?_
  refine lv_iload_n hx hb d_M_interrupter_1 rfl (lv_at hl 2 rfl) ?_
  refine zr_icmp_ge (tgt := 9) hx hb (zB.I hb_a (by decide) (by decide)) (zB.I hb_b (by decide) (by decide)) d_M_interrupter_2 (by decide) (fun c_1 => ?_) (fun c_1 => ?_)
  · replace hq := (if_neg c_1).symm.trans hq
    refine lv_iload_n hx hb d_M_interrupter_9 rfl (lv_at hl 2 rfl) ?_
    refine lv_istore_n (lv' := [(3, .int (zi b)), (0, .ref (ad 0)), (1, .int (zi a)), (2, .int (zi b))]) hx hb d_M_interrupter_10 rfl hl (by decide) rfl (fun ls hl => ?_)
    refine lv_iload_n hx hb d_M_interrupter_11 rfl (lv_at hl 2 rfl) ?_
    refine lv_iload_n hx hb d_M_interrupter_12 rfl (lv_at hl 3 rfl) ?_
    refine zr_icmp_ge (tgt := 20) hx hb (zB.I hb_a (by decide) (by decide)) (zB.I hb_b (by decide) (by decide)) d_M_interrupter_13 (by decide) (fun _ => ?_) (fun c => absurd c c_1)
    refine lv_iload_n hx hb d_M_interrupter_20 rfl (lv_at hl 2 rfl) ?_
    refine lv_istore (lv' := [(4, .int (zi a)), (3, .int (zi b)), (0, .ref (ad 0)), (1, .int (zi a)), (2, .int (zi b))]) hx hb d_M_interrupter_21 hl (by decide) rfl (fun ls hl => ?_)
    refine lv_iload_n hx hb d_M_interrupter_23 rfl (lv_at hl 1 rfl) ?_
    refine lv_iconst (v := zi 1) hx hb d_M_interrupter_24 rfl ?_
    have b_2 : zB 1 60 (b + 1) := zB.w (zb_add hb_b (zb_c 1)) (by decide) (by decide)
    refine zr_iadd hx hb d_M_interrupter_25 ?_
    refine lv_istore (lv' := [(5, .int (zi (b + 1))), (4, .int (zi a)), (3, .int (zi b)), (0, .ref (ad 0)), (1, .int (zi a)), (2, .int (zi b))]) hx hb d_M_interrupter_26 hl (by decide) rfl (fun ls hl => ?_)
    have L_g : ∀ (z : Int), (∀ (ls : Array Slot) (H : Heap) (locs : List Loc) (k0 k1 k2 k3 : Int), zB (-115000) 115000 k0 → zB (-115000) 115000 k1 → zB (-115000) 115000 k2 → zB (-115000) 115000 k3 → va_P (dC, dI) classes (wM ad cI N k0 k1 k2 k3) H → va_S (zAM ad) s.heap H locs → z = r → lv_has ls 6 [(0, .ref (ad 0)), (1, .int (zi a)), (2, .int (zi b)), (3, .int (zi b)), (4, .int (zi a))] → W p l e { frames := 3, cells := 0, slots := 0, locals := 71 } s m ([.ref (ad 0), .int (zi a), .int (zi b)] : List Value).toArray below meth c H locs 0 0 (MQ below (zQ (some (.int (zi r))) (fun H => ∃ k0 k1 k2 k3 : Int, zB (-115000) 115000 k0 ∧ zB (-115000) 115000 k1 ∧ zB (-115000) 115000 k2 ∧ zB (-115000) 115000 k3 ∧ va_P (dC, dI) classes (wM ad cI N k0 k1 k2 k3) H) (zAM ad)) ([.ref (ad 0), .int (zi a), .int (zi b)] : List Value).toArray s 0 0 (zAM ad)) (F0 m 58 ls [])) → ∀ (k : Nat) (i : Int) (ls : Array Slot) (H : Heap) (locs : List Loc) (k0 k1 k2 k3 : Int), zB (-115000) 115000 k0 → zB (-115000) 115000 k1 → zB (-115000) 115000 k2 → zB (-115000) 115000 k3 → va_P (dC, dI) classes (wM ad cI N k0 k1 k2 k3) H → va_S (zAM ad) s.heap H locs → zB 1 60 i → 60 - i < (k : Int) → f_M_interrupter_g N a b z k i = r → lv_has ls 6 [(0, .ref (ad 0)), (1, .int (zi a)), (2, .int (zi b)), (3, .int (zi b)), (4, .int (zi a)), (5, .int (zi i))] → W p l e { frames := 3, cells := 0, slots := 0, locals := 71 } s m ([.ref (ad 0), .int (zi a), .int (zi b)] : List Value).toArray below meth c H locs 0 0 (MQ below (zQ (some (.int (zi r))) (fun H => ∃ k0 k1 k2 k3 : Int, zB (-115000) 115000 k0 ∧ zB (-115000) 115000 k1 ∧ zB (-115000) 115000 k2 ∧ zB (-115000) 115000 k3 ∧ va_P (dC, dI) classes (wM ad cI N k0 k1 k2 k3) H) (zAM ad)) ([.ref (ad 0), .int (zi a), .int (zi b)] : List Value).toArray s 0 0 (zAM ad)) (F0 m 28 ls []) := by
      intro z hz k
      induction k with
      | zero =>
        intro i ls H locs k0 k1 k2 k3 hk0 hk1 hk2 hk3 hP hS hb_i  hk hq hl
        exact absurd hk (by have := hb_i.1; have := hb_i.2; omega)
      | succ k ih =>
        intro i ls H locs k0 k1 k2 k3 hk0 hk1 hk2 hk3 hP hS hb_i  hk hq hl
        obtain ⟨hl_i, hh_i⟩ := id hb_i
        replace hq := (f_M_interrupter_g_s N a b z k i).symm.trans hq
        refine lv_iload hx hb d_M_interrupter_28 (lv_at hl 5 rfl) ?_
        refine lv_iload hx hb d_M_interrupter_30 (lv_at hl 4 rfl) ?_
        refine zr_icmp_ge (tgt := 58) hx hb (zB.I hb_i (by decide) (by decide)) (zB.I hb_a (by decide) (by decide)) d_M_interrupter_32 (by decide) (fun c_3 => ?_) (fun c_3 => ?_)
        · replace hq := (if_neg c_3).symm.trans hq
          exact hz ls _ _ k0 k1 k2 k3 (zB.w hk0 (by decide) (by decide)) (zB.w hk1 (by decide) (by decide)) (zB.w hk2 (by decide) (by decide)) (zB.w hk3 (by decide) (by decide)) hP hS hq (lv_sub hl [0, 1, 2, 3, 4] rfl)
        · replace hq := (if_pos c_3).symm.trans hq
          refine lv_aload_n hx hb d_M_interrupter_35 rfl (lv_at hl 0 rfl) ?_
          refine lv_iload_n hx hb d_M_interrupter_36 rfl (lv_at hl 1 rfl) ?_
          refine lv_iload_n hx hb d_M_interrupter_37 rfl (lv_at hl 2 rfl) ?_
          refine lv_iload hx hb d_M_interrupter_38 (lv_at hl 5 rfl) ?_
          refine zc_n (va_runV (As := [.int (zi a), .int (zi b), .int (zi i)]) (rest := []) ⟨hx, hb, hml, hown, hts⟩ (k_M_isAbove l dC dI ad cI N k0 k1 k2 k3 hI a b i (zB.w hb_a (by decide) (by decide)) (zB.w hb_b (by decide) (by decide)) ⟨by omega, by omega⟩ ) (zcV 3 hts m_299 m_3 m_297 m_298 m_394 rfl rfl q_M_isAbove ⟨Nat.le_of_ble_eq_true rfl, Nat.le_of_ble_eq_true rfl⟩) (zpM0 hP hK [.int (zi a), .int (zi b), .int (zi i)]) rfl rfl hl.1 rfl (lv_room (Nat.le_of_ble_eq_true rfl)) d_M_interrupter_40 ⟨Nat.zero_le _, Nat.zero_le _⟩) ?_
          refine zr_if_eq (tgt := 52) hx hb (zB.I (bb_M_isAbove N a b i) (by decide) (by decide)) d_M_interrupter_43 (by decide) (fun c_4 => ?_) (fun c_4 => ?_)
          · replace hq := (if_pos c_4).symm.trans hq
            have r_5 : zB 0 0 (f_M_isAbove N a b i) := ⟨(Int.le_of_eq c_4.symm), (Int.le_of_eq c_4)⟩
            have b_6 : zB 2 61 (i + 1) := zB.w (zb_add hb_i (zb_c 1)) (by decide) (by decide)
            refine lv_iinc (v := zi (i + 1)) (lv' := [(5, .int (zi (i + 1))), (0, .ref (ad 0)), (1, .int (zi a)), (2, .int (zi b)), (3, .int (zi b)), (4, .int (zi a))]) hx hb d_M_interrupter_52 hl (k := 5) rfl (zi_add _ _) (by decide) rfl (fun ls hl => ?_)
            refine lv_goto (tgt := 28) hx hb d_M_interrupter_55 (by decide) ?_
            exact ih (i + 1) ls _ _ k0 k1 k2 k3 (zB.w hk0 (by decide) (by decide)) (zB.w hk1 (by decide) (by decide)) (zB.w hk2 (by decide) (by decide)) (zB.w hk3 (by decide) (by decide)) hP hS ⟨by have h9 := b_6.1; have h8 := b_6.2; omega, by have h9 := b_6.1; have h8 := b_6.2; omega⟩  (by omega) hq (lv_sub hl [1, 2, 3, 4, 5, 0] rfl)
          · replace hq := (if_neg c_4).symm.trans hq
            have r_7 : zB 1 1 (f_M_isAbove N a b i) := ⟨(by have := (bb_M_isAbove N a b i).1; omega), (bb_M_isAbove N a b i).2⟩
            refine lv_bipush (v := zi 100) hx hb d_M_interrupter_46 (by decide) ?_
            refine lv_iload hx hb d_M_interrupter_48 (lv_at hl 5 rfl) ?_
            have b_8 : zB 101 160 (100 + i) := zB.w (zb_add (zb_c 100) hb_i) (by decide) (by decide)
            refine zr_iadd hx hb d_M_interrupter_50 ?_
            exact zw_i hx hb hr hlocks hq ⟨k0, k1, k2, k3, zB.w hk0 (by decide) (by decide), zB.w hk1 (by decide) (by decide), zB.w hk2 (by decide) (by decide), zB.w hk3 (by decide) (by decide), hP⟩ hS d_M_interrupter_51
    refine L_g _ (fun ls H locs k0 k1 k2 k3 hk0 hk1 hk2 hk3 hP hS hq hl => ?_) 61 (b + 1) ls _ _ k0 k1 k2 k3 (zB.w hb_k0 (by decide) (by decide)) (zB.w hb_k1 (by decide) (by decide)) (zB.w hb_k2 (by decide) (by decide)) (zB.w hb_k3 (by decide) (by decide)) hP hS (zB.w b_2 (by decide) (by decide))  (by omega) hq (lv_sub hl [3, 4, 5, 2, 1, 0] rfl)
    refine lv_iload_n hx hb d_M_interrupter_58 rfl (lv_at hl 3 rfl) ?_
    refine lv_iconst (v := zi 1) hx hb d_M_interrupter_59 rfl ?_
    refine zr_iadd hx hb d_M_interrupter_60 ?_
    refine lv_istore (lv' := [(5, .int (zi (b + 1))), (0, .ref (ad 0)), (1, .int (zi a)), (2, .int (zi b)), (3, .int (zi b)), (4, .int (zi a))]) hx hb d_M_interrupter_61 hl (by decide) rfl (fun ls hl => ?_)
    have L_b : ∀ (z : Int), (∀ (ls : Array Slot) (H : Heap) (locs : List Loc) (k0 k1 k2 k3 : Int), zB (-115000) 115000 k0 → zB (-115000) 115000 k1 → zB (-115000) 115000 k2 → zB (-115000) 115000 k3 → va_P (dC, dI) classes (wM ad cI N k0 k1 k2 k3) H → va_S (zAM ad) s.heap H locs → z = r → lv_has ls 6 [(0, .ref (ad 0)), (1, .int (zi a)), (2, .int (zi b)), (3, .int (zi b)), (4, .int (zi a))] → W p l e { frames := 3, cells := 0, slots := 0, locals := 71 } s m ([.ref (ad 0), .int (zi a), .int (zi b)] : List Value).toArray below meth c H locs 0 0 (MQ below (zQ (some (.int (zi r))) (fun H => ∃ k0 k1 k2 k3 : Int, zB (-115000) 115000 k0 ∧ zB (-115000) 115000 k1 ∧ zB (-115000) 115000 k2 ∧ zB (-115000) 115000 k3 ∧ va_P (dC, dI) classes (wM ad cI N k0 k1 k2 k3) H) (zAM ad)) ([.ref (ad 0), .int (zi a), .int (zi b)] : List Value).toArray s 0 0 (zAM ad)) (F0 m 94 ls [])) → ∀ (k : Nat) (i : Int) (ls : Array Slot) (H : Heap) (locs : List Loc) (k0 k1 k2 k3 : Int), zB (-115000) 115000 k0 → zB (-115000) 115000 k1 → zB (-115000) 115000 k2 → zB (-115000) 115000 k3 → va_P (dC, dI) classes (wM ad cI N k0 k1 k2 k3) H → va_S (zAM ad) s.heap H locs → zB 1 60 i → 60 - i < (k : Int) → f_M_interrupter_b N a b z k i = r → lv_has ls 6 [(0, .ref (ad 0)), (1, .int (zi a)), (2, .int (zi b)), (3, .int (zi b)), (4, .int (zi a)), (5, .int (zi i))] → W p l e { frames := 3, cells := 0, slots := 0, locals := 71 } s m ([.ref (ad 0), .int (zi a), .int (zi b)] : List Value).toArray below meth c H locs 0 0 (MQ below (zQ (some (.int (zi r))) (fun H => ∃ k0 k1 k2 k3 : Int, zB (-115000) 115000 k0 ∧ zB (-115000) 115000 k1 ∧ zB (-115000) 115000 k2 ∧ zB (-115000) 115000 k3 ∧ va_P (dC, dI) classes (wM ad cI N k0 k1 k2 k3) H) (zAM ad)) ([.ref (ad 0), .int (zi a), .int (zi b)] : List Value).toArray s 0 0 (zAM ad)) (F0 m 63 ls []) := by
      intro z hz k
      induction k with
      | zero =>
        intro i ls H locs k0 k1 k2 k3 hk0 hk1 hk2 hk3 hP hS hb_i  hk hq hl
        exact absurd hk (by have := hb_i.1; have := hb_i.2; omega)
      | succ k ih =>
        intro i ls H locs k0 k1 k2 k3 hk0 hk1 hk2 hk3 hP hS hb_i  hk hq hl
        obtain ⟨hl_i, hh_i⟩ := id hb_i
        replace hq := (f_M_interrupter_b_s N a b z k i).symm.trans hq
        refine lv_iload hx hb d_M_interrupter_63 (lv_at hl 5 rfl) ?_
        refine lv_iload hx hb d_M_interrupter_65 (lv_at hl 4 rfl) ?_
        refine zr_icmp_ge (tgt := 94) hx hb (zB.I hb_i (by decide) (by decide)) (zB.I hb_a (by decide) (by decide)) d_M_interrupter_67 (by decide) (fun c_9 => ?_) (fun c_9 => ?_)
        · replace hq := (if_neg c_9).symm.trans hq
          exact hz ls _ _ k0 k1 k2 k3 (zB.w hk0 (by decide) (by decide)) (zB.w hk1 (by decide) (by decide)) (zB.w hk2 (by decide) (by decide)) (zB.w hk3 (by decide) (by decide)) hP hS hq (lv_sub hl [0, 1, 2, 3, 4] rfl)
        · replace hq := (if_pos c_9).symm.trans hq
          refine lv_aload_n hx hb d_M_interrupter_70 rfl (lv_at hl 0 rfl) ?_
          refine lv_iload_n hx hb d_M_interrupter_71 rfl (lv_at hl 1 rfl) ?_
          refine lv_iload_n hx hb d_M_interrupter_72 rfl (lv_at hl 2 rfl) ?_
          refine lv_iload hx hb d_M_interrupter_73 (lv_at hl 5 rfl) ?_
          refine zc_n (va_runV (As := [.int (zi a), .int (zi b), .int (zi i)]) (rest := []) ⟨hx, hb, hml, hown, hts⟩ (k_M_isBanked l dC dI ad cI N k0 k1 k2 k3 hI a b i (zB.w hb_a (by decide) (by decide)) (zB.w hb_b (by decide) (by decide)) ⟨by omega, by omega⟩ ) (zcV 3 hts m_302 m_3 m_300 m_301 m_395 rfl rfl q_M_isBanked ⟨Nat.le_of_ble_eq_true rfl, Nat.le_of_ble_eq_true rfl⟩) (zpM0 hP hK [.int (zi a), .int (zi b), .int (zi i)]) rfl rfl hl.1 rfl (lv_room (Nat.le_of_ble_eq_true rfl)) d_M_interrupter_75 ⟨Nat.zero_le _, Nat.zero_le _⟩) ?_
          refine zr_if_eq (tgt := 88) hx hb (zB.I (bb_M_isBanked N a b i) (by decide) (by decide)) d_M_interrupter_78 (by decide) (fun c_10 => ?_) (fun c_10 => ?_)
          · replace hq := (if_pos c_10).symm.trans hq
            have r_11 : zB 0 0 (f_M_isBanked N a b i) := ⟨(Int.le_of_eq c_10.symm), (Int.le_of_eq c_10)⟩
            have b_12 : zB 2 61 (i + 1) := zB.w (zb_add hb_i (zb_c 1)) (by decide) (by decide)
            refine lv_iinc (v := zi (i + 1)) (lv' := [(5, .int (zi (i + 1))), (0, .ref (ad 0)), (1, .int (zi a)), (2, .int (zi b)), (3, .int (zi b)), (4, .int (zi a))]) hx hb d_M_interrupter_88 hl (k := 5) rfl (zi_add _ _) (by decide) rfl (fun ls hl => ?_)
            refine lv_goto (tgt := 63) hx hb d_M_interrupter_91 (by decide) ?_
            exact ih (i + 1) ls _ _ k0 k1 k2 k3 (zB.w hk0 (by decide) (by decide)) (zB.w hk1 (by decide) (by decide)) (zB.w hk2 (by decide) (by decide)) (zB.w hk3 (by decide) (by decide)) hP hS ⟨by have h9 := b_12.1; have h8 := b_12.2; omega, by have h9 := b_12.1; have h8 := b_12.2; omega⟩  (by omega) hq (lv_sub hl [1, 2, 3, 4, 5, 0] rfl)
          · replace hq := (if_neg c_10).symm.trans hq
            have r_13 : zB 1 1 (f_M_isBanked N a b i) := ⟨(by have := (bb_M_isBanked N a b i).1; omega), (bb_M_isBanked N a b i).2⟩
            refine lv_sipush (v := zi 200) hx hb d_M_interrupter_81 (by decide) ?_
            refine lv_iload hx hb d_M_interrupter_84 (lv_at hl 5 rfl) ?_
            have b_14 : zB 201 260 (200 + i) := zB.w (zb_add (zb_c 200) hb_i) (by decide) (by decide)
            refine zr_iadd hx hb d_M_interrupter_86 ?_
            exact zw_i hx hb hr hlocks hq ⟨k0, k1, k2, k3, zB.w hk0 (by decide) (by decide), zB.w hk1 (by decide) (by decide), zB.w hk2 (by decide) (by decide), zB.w hk3 (by decide) (by decide), hP⟩ hS d_M_interrupter_87
    refine L_b _ (fun ls H locs k0 k1 k2 k3 hk0 hk1 hk2 hk3 hP hS hq hl => ?_) 61 (b + 1) ls _ _ k0 k1 k2 k3 (zB.w hk0 (by decide) (by decide)) (zB.w hk1 (by decide) (by decide)) (zB.w hk2 (by decide) (by decide)) (zB.w hk3 (by decide) (by decide)) hP hS (zB.w b_2 (by decide) (by decide))  (by omega) hq (lv_sub hl [1, 2, 3, 4, 5, 0] rfl)
    refine lv_iconst (v := zi 0) hx hb d_M_interrupter_94 rfl ?_
    refine lv_istore (lv' := [(5, .int (zi 0)), (0, .ref (ad 0)), (1, .int (zi a)), (2, .int (zi b)), (3, .int (zi b)), (4, .int (zi a))]) hx hb d_M_interrupter_95 hl (by decide) rfl (fun ls hl => ?_)
    have L_x : ∀ (z : Int), (∀ (ls : Array Slot) (H : Heap) (locs : List Loc) (k0 k1 k2 k3 : Int), zB (-115000) 115000 k0 → zB (-115000) 115000 k1 → zB (-115000) 115000 k2 → zB (-115000) 115000 k3 → va_P (dC, dI) classes (wM ad cI N k0 k1 k2 k3) H → va_S (zAM ad) s.heap H locs → z = r → lv_has ls 6 [(0, .ref (ad 0)), (1, .int (zi a)), (2, .int (zi b))] → W p l e { frames := 3, cells := 0, slots := 0, locals := 71 } s m ([.ref (ad 0), .int (zi a), .int (zi b)] : List Value).toArray below meth c H locs 0 0 (MQ below (zQ (some (.int (zi r))) (fun H => ∃ k0 k1 k2 k3 : Int, zB (-115000) 115000 k0 ∧ zB (-115000) 115000 k1 ∧ zB (-115000) 115000 k2 ∧ zB (-115000) 115000 k3 ∧ va_P (dC, dI) classes (wM ad cI N k0 k1 k2 k3) H) (zAM ad)) ([.ref (ad 0), .int (zi a), .int (zi b)] : List Value).toArray s 0 0 (zAM ad)) (F0 m 174 ls [])) → ∀ (k : Nat) (i : Int) (ls : Array Slot) (H : Heap) (locs : List Loc) (k0 k1 k2 k3 : Int), zB (-115000) 115000 k0 → zB (-115000) 115000 k1 → zB (-115000) 115000 k2 → zB (-115000) 115000 k3 → va_P (dC, dI) classes (wM ad cI N k0 k1 k2 k3) H → va_S (zAM ad) s.heap H locs → zB 0 8 i → i ≤ N 7 1 → 8 - i < (k : Int) → f_M_interrupter_x N a b z k i = r → lv_has ls 6 [(0, .ref (ad 0)), (1, .int (zi a)), (2, .int (zi b)), (5, .int (zi i))] → W p l e { frames := 3, cells := 0, slots := 0, locals := 71 } s m ([.ref (ad 0), .int (zi a), .int (zi b)] : List Value).toArray below meth c H locs 0 0 (MQ below (zQ (some (.int (zi r))) (fun H => ∃ k0 k1 k2 k3 : Int, zB (-115000) 115000 k0 ∧ zB (-115000) 115000 k1 ∧ zB (-115000) 115000 k2 ∧ zB (-115000) 115000 k3 ∧ va_P (dC, dI) classes (wM ad cI N k0 k1 k2 k3) H) (zAM ad)) ([.ref (ad 0), .int (zi a), .int (zi b)] : List Value).toArray s 0 0 (zAM ad)) (F0 m 97 ls []) := by
      intro z hz k
      induction k with
      | zero =>
        intro i ls H locs k0 k1 k2 k3 hk0 hk1 hk2 hk3 hP hS hb_i hi_0 hk hq hl
        exact absurd hk (by have := hb_i.1; have := hb_i.2; omega)
      | succ k ih =>
        intro i ls H locs k0 k1 k2 k3 hk0 hk1 hk2 hk3 hP hS hb_i hi_0 hk hq hl
        obtain ⟨hl_i, hh_i⟩ := id hb_i
        replace hq := (f_M_interrupter_x_s N a b z k i).symm.trans hq
        refine lv_iload hx hb d_M_interrupter_97 (lv_at hl 3 rfl) ?_
        refine lv_aload_n hx hb d_M_interrupter_99 rfl (lv_at hl 0 rfl) ?_
        refine va_get (D := (dC, dI)) (ci := 2) (v := .int (zi (N 7 1))) (C := R_M) (T := T_M) (N := 17) hx hb hw i_M hown hK hP 0 rfl rfl 7 (by decide) (hw _ m_233) (fun _ h9 => h9) rfl d_M_interrupter_100 ?_
        refine zr_icmp_ge (tgt := 174) hx hb (zB.I hb_i (by decide) (by decide)) (zB.I (jN_s1 hI) (by decide) (by decide)) d_M_interrupter_103 (by decide) (fun c_15 => ?_) (fun c_15 => ?_)
        · replace hq := (if_neg c_15).symm.trans hq
          exact hz ls _ _ k0 k1 k2 k3 (zB.w hk0 (by decide) (by decide)) (zB.w hk1 (by decide) (by decide)) (zB.w hk2 (by decide) (by decide)) (zB.w hk3 (by decide) (by decide)) hP hS hq (lv_sub hl [0, 1, 2] rfl)
        · replace hq := (if_pos c_15).symm.trans hq
          refine lv_aload_n hx hb d_M_interrupter_106 rfl (lv_at hl 0 rfl) ?_
          refine lv_iload hx hb d_M_interrupter_107 (lv_at hl 3 rfl) ?_
          refine lv_aload_n hx hb d_M_interrupter_109 rfl (lv_at hl 0 rfl) ?_
          refine va_get (D := (dC, dI)) (ci := 2) (v := .ref (ad 1)) (C := R_M) (T := T_M) (N := 17) hx hb hw i_M hown hK hP 0 rfl rfl 1 (by decide) (hw _ m_227) (fun _ h9 => h9) rfl d_M_interrupter_110 ?_
          refine lv_iload_n hx hb d_M_interrupter_113 rfl (lv_at hl 1 rfl) ?_
          refine zr_iald hx hb hK hP 1 0 (cA := cI) (n := 60) (g := N 0) rfl rfl (i := a) (by omega) (by omega) (by decide) d_M_interrupter_114 ?_
          refine lv_aload_n hx hb d_M_interrupter_115 rfl (lv_at hl 0 rfl) ?_
          refine va_get (D := (dC, dI)) (ci := 2) (v := .ref (ad 2)) (C := R_M) (T := T_M) (N := 17) hx hb hw i_M hown hK hP 0 rfl rfl 2 (by decide) (hw _ m_228) (fun _ h9 => h9) rfl d_M_interrupter_116 ?_
          refine lv_iload_n hx hb d_M_interrupter_119 rfl (lv_at hl 1 rfl) ?_
          refine zr_iald hx hb hK hP 2 0 (cA := cI) (n := 60) (g := N 1) rfl rfl (i := a) (by omega) (by omega) (by decide) d_M_interrupter_120 ?_
          refine lv_aload_n hx hb d_M_interrupter_121 rfl (lv_at hl 0 rfl) ?_
          refine va_get (D := (dC, dI)) (ci := 2) (v := .ref (ad 3)) (C := R_M) (T := T_M) (N := 17) hx hb hw i_M hown hK hP 0 rfl rfl 3 (by decide) (hw _ m_229) (fun _ h9 => h9) rfl d_M_interrupter_122 ?_
          refine lv_iload_n hx hb d_M_interrupter_125 rfl (lv_at hl 1 rfl) ?_
          refine zr_iald hx hb hK hP 3 0 (cA := cI) (n := 60) (g := N 2) rfl rfl (i := a) (by omega) (by omega) (by decide) d_M_interrupter_126 ?_
          refine lv_aload_n hx hb d_M_interrupter_127 rfl (lv_at hl 0 rfl) ?_
          refine va_get (D := (dC, dI)) (ci := 2) (v := .int (zi (N 7 2))) (C := R_M) (T := T_M) (N := 17) hx hb hw i_M hown hK hP 0 rfl rfl 9 (by decide) (hw _ m_235) (fun _ h9 => h9) rfl d_M_interrupter_128 ?_
          have b_16 : zB (-100000) 101000 ((N 2 a) + (N 7 2)) := zB.w (zb_add (jN_a2 hI a) (jN_s2 hI)) (by decide) (by decide)
          refine zr_iadd hx hb d_M_interrupter_131 ?_
          refine lv_aload_n hx hb d_M_interrupter_132 rfl (lv_at hl 0 rfl) ?_
          refine va_get (D := (dC, dI)) (ci := 2) (v := .ref (ad 1)) (C := R_M) (T := T_M) (N := 17) hx hb hw i_M hown hK hP 0 rfl rfl 1 (by decide) (hw _ m_227) (fun _ h9 => h9) rfl d_M_interrupter_133 ?_
          refine lv_iload_n hx hb d_M_interrupter_136 rfl (lv_at hl 2 rfl) ?_
          refine zr_iald hx hb hK hP 1 0 (cA := cI) (n := 60) (g := N 0) rfl rfl (i := b) (by omega) (by omega) (by decide) d_M_interrupter_137 ?_
          refine lv_aload_n hx hb d_M_interrupter_138 rfl (lv_at hl 0 rfl) ?_
          refine va_get (D := (dC, dI)) (ci := 2) (v := .ref (ad 2)) (C := R_M) (T := T_M) (N := 17) hx hb hw i_M hown hK hP 0 rfl rfl 2 (by decide) (hw _ m_228) (fun _ h9 => h9) rfl d_M_interrupter_139 ?_
          refine lv_iload_n hx hb d_M_interrupter_142 rfl (lv_at hl 2 rfl) ?_
          refine zr_iald hx hb hK hP 2 0 (cA := cI) (n := 60) (g := N 1) rfl rfl (i := b) (by omega) (by omega) (by decide) d_M_interrupter_143 ?_
          refine lv_aload_n hx hb d_M_interrupter_144 rfl (lv_at hl 0 rfl) ?_
          refine va_get (D := (dC, dI)) (ci := 2) (v := .ref (ad 3)) (C := R_M) (T := T_M) (N := 17) hx hb hw i_M hown hK hP 0 rfl rfl 3 (by decide) (hw _ m_229) (fun _ h9 => h9) rfl d_M_interrupter_145 ?_
          refine lv_iload_n hx hb d_M_interrupter_148 rfl (lv_at hl 2 rfl) ?_
          refine zr_iald hx hb hK hP 3 0 (cA := cI) (n := 60) (g := N 2) rfl rfl (i := b) (by omega) (by omega) (by decide) d_M_interrupter_149 ?_
          refine lv_aload_n hx hb d_M_interrupter_150 rfl (lv_at hl 0 rfl) ?_
          refine va_get (D := (dC, dI)) (ci := 2) (v := .int (zi (N 7 3))) (C := R_M) (T := T_M) (N := 17) hx hb hw i_M hown hK hP 0 rfl rfl 10 (by decide) (hw _ m_236) (fun _ h9 => h9) rfl d_M_interrupter_151 ?_
          have b_17 : zB (-100000) 101000 ((N 2 b) + (N 7 3)) := zB.w (zb_add (jN_a2 hI b) (jN_s3 hI)) (by decide) (by decide)
          refine zr_iadd hx hb d_M_interrupter_154 ?_
          refine zc_w (va_runV (As := [.int (zi i), .int (zi (N 0 a)), .int (zi (N 1 a)), .int (zi ((N 2 a) + (N 7 2))), .int (zi (N 0 b)), .int (zi (N 1 b)), .int (zi ((N 2 b) + (N 7 3)))]) (rest := []) ⟨hx, hb, hml, hown, hts⟩ (k_M_isBoxed l dC dI ad cI N k0 k1 k2 k3 hI hj (zB.w hk0 (by decide) (by decide)) (zB.w hk1 (by decide) (by decide)) (zB.w hk2 (by decide) (by decide)) (zB.w hk3 (by decide) (by decide)) i (N 0 a) (N 1 a) ((N 2 a) + (N 7 2)) (N 0 b) (N 1 b) ((N 2 b) + (N 7 3)) ⟨by omega, by omega⟩ (zB.w (jN_a0 hI a) (by decide) (by decide)) (zB.w (jN_a1 hI a) (by decide) (by decide)) (zB.w b_16 (by decide) (by decide)) (zB.w (jN_a0 hI b) (by decide) (by decide)) (zB.w (jN_a1 hI b) (by decide) (by decide)) (zB.w b_17 (by decide) (by decide)) ) (zcV 7 hts m_311 m_3 m_309 m_310 m_398 rfl rfl q_M_isBoxed ⟨Nat.le_of_ble_eq_true rfl, Nat.le_of_ble_eq_true rfl⟩) (zpM0 hP hK [.int (zi i), .int (zi (N 0 a)), .int (zi (N 1 a)), .int (zi ((N 2 a) + (N 7 2))), .int (zi (N 0 b)), .int (zi (N 1 b)), .int (zi ((N 2 b) + (N 7 3)))]) rfl rfl hl.1 rfl (lv_room (Nat.le_of_ble_eq_true rfl)) d_M_interrupter_155 ⟨Nat.zero_le _, Nat.zero_le _⟩) hS (fun q _ h => h) (fun q h => h) (fun H locs hP hz1 hk1 hS => ?_)
          clear hz1 hk1
          obtain ⟨k0_e_18, k1_e_18, k2_e_18, k3_e_18, hk0_e_18, hk1_e_18, hk2_e_18, hk3_e_18, hP⟩ := hP
          refine zr_if_eq (tgt := 168) hx hb (zB.I (bb_M_isBoxed N i (N 0 a) (N 1 a) ((N 2 a) + (N 7 2)) (N 0 b) (N 1 b) ((N 2 b) + (N 7 3))) (by decide) (by decide)) d_M_interrupter_158 (by decide) (fun c_19 => ?_) (fun c_19 => ?_)
          · replace hq := (if_pos c_19).symm.trans hq
            have r_20 : zB 0 0 (f_M_isBoxed N i (N 0 a) (N 1 a) ((N 2 a) + (N 7 2)) (N 0 b) (N 1 b) ((N 2 b) + (N 7 3))) := ⟨(Int.le_of_eq c_19.symm), (Int.le_of_eq c_19)⟩
            have b_21 : zB 1 9 (i + 1) := zB.w (zb_add hb_i (zb_c 1)) (by decide) (by decide)
            refine lv_iinc (v := zi (i + 1)) (lv' := [(5, .int (zi (i + 1))), (0, .ref (ad 0)), (1, .int (zi a)), (2, .int (zi b))]) hx hb d_M_interrupter_168 hl (k := 3) rfl (zi_add _ _) (by decide) rfl (fun ls hl => ?_)
            refine lv_goto (tgt := 97) hx hb d_M_interrupter_171 (by decide) ?_
            exact ih (i + 1) ls _ _ k0_e_18 k1_e_18 k2_e_18 k3_e_18 (zB.w hk0_e_18 (by decide) (by decide)) (zB.w hk1_e_18 (by decide) (by decide)) (zB.w hk2_e_18 (by decide) (by decide)) (zB.w hk3_e_18 (by decide) (by decide)) hP hS ⟨by have h9 := b_21.1; have h8 := b_21.2; omega, by have h9 := b_21.1; have h8 := b_21.2; omega⟩ (by omega) (by omega) hq (lv_sub hl [1, 2, 3, 0] rfl)
          · replace hq := (if_neg c_19).symm.trans hq
            have r_22 : zB 1 1 (f_M_isBoxed N i (N 0 a) (N 1 a) ((N 2 a) + (N 7 2)) (N 0 b) (N 1 b) ((N 2 b) + (N 7 3))) := ⟨(by have := (bb_M_isBoxed N i (N 0 a) (N 1 a) ((N 2 a) + (N 7 2)) (N 0 b) (N 1 b) ((N 2 b) + (N 7 3))).1; omega), (bb_M_isBoxed N i (N 0 a) (N 1 a) ((N 2 a) + (N 7 2)) (N 0 b) (N 1 b) ((N 2 b) + (N 7 3))).2⟩
            refine lv_sipush (v := zi 300) hx hb d_M_interrupter_161 (by decide) ?_
            refine lv_iload hx hb d_M_interrupter_164 (lv_at hl 3 rfl) ?_
            have b_23 : zB 300 308 (300 + i) := zB.w (zb_add (zb_c 300) hb_i) (by decide) (by decide)
            refine zr_iadd hx hb d_M_interrupter_166 ?_
            exact zw_i hx hb hr hlocks hq ⟨k0_e_18, k1_e_18, k2_e_18, k3_e_18, zB.w hk0_e_18 (by decide) (by decide), zB.w hk1_e_18 (by decide) (by decide), zB.w hk2_e_18 (by decide) (by decide), zB.w hk3_e_18 (by decide) (by decide), hP⟩ hS d_M_interrupter_167
    refine L_x _ (fun ls H locs k0 k1 k2 k3 hk0 hk1 hk2 hk3 hP hS hq hl => ?_) 9 0 ls _ _ k0 k1 k2 k3 (zB.w hk0 (by decide) (by decide)) (zB.w hk1 (by decide) (by decide)) (zB.w hk2 (by decide) (by decide)) (zB.w hk3 (by decide) (by decide)) hP hS (zB.w (zb_c 0) (by decide) (by decide)) (by omega) (by omega) hq (lv_sub hl [1, 2, 3, 0] rfl)
    refine lv_iconst (v := zi 0) hx hb d_M_interrupter_174 rfl ?_
    exact zw_i hx hb hr hlocks hq ⟨k0, k1, k2, k3, zB.w hk0 (by decide) (by decide), zB.w hk1 (by decide) (by decide), zB.w hk2 (by decide) (by decide), zB.w hk3 (by decide) (by decide), hP⟩ hS d_M_interrupter_175
  · replace hq := (if_pos c_1).symm.trans hq
    refine lv_iload_n hx hb d_M_interrupter_5 rfl (lv_at hl 1 rfl) ?_
    refine lv_goto (tgt := 10) hx hb d_M_interrupter_6 (by decide) ?_
    refine lv_istore_n (lv' := [(3, .int (zi a)), (0, .ref (ad 0)), (1, .int (zi a)), (2, .int (zi b))]) hx hb d_M_interrupter_10 rfl hl (by decide) rfl (fun ls hl => ?_)
    refine lv_iload_n hx hb d_M_interrupter_11 rfl (lv_at hl 2 rfl) ?_
    refine lv_iload_n hx hb d_M_interrupter_12 rfl (lv_at hl 3 rfl) ?_
    refine zr_icmp_ge (tgt := 20) hx hb (zB.I hb_a (by decide) (by decide)) (zB.I hb_b (by decide) (by decide)) d_M_interrupter_13 (by decide) (fun c => absurd c_1 c) (fun _ => ?_)
    refine lv_iload_n hx hb d_M_interrupter_16 rfl (lv_at hl 3 rfl) ?_
    refine lv_goto (tgt := 21) hx hb d_M_interrupter_17 (by decide) ?_
    refine lv_istore (lv' := [(4, .int (zi b)), (3, .int (zi a)), (0, .ref (ad 0)), (1, .int (zi a)), (2, .int (zi b))]) hx hb d_M_interrupter_21 hl (by decide) rfl (fun ls hl => ?_)
    refine lv_iload_n hx hb d_M_interrupter_23 rfl (lv_at hl 1 rfl) ?_
    refine lv_iconst (v := zi 1) hx hb d_M_interrupter_24 rfl ?_
    have b_24 : zB 1 60 (a + 1) := zB.w (zb_add hb_a (zb_c 1)) (by decide) (by decide)
    refine zr_iadd hx hb d_M_interrupter_25 ?_
    refine lv_istore (lv' := [(5, .int (zi (a + 1))), (4, .int (zi b)), (3, .int (zi a)), (0, .ref (ad 0)), (1, .int (zi a)), (2, .int (zi b))]) hx hb d_M_interrupter_26 hl (by decide) rfl (fun ls hl => ?_)
    have L_g2 : ∀ (z : Int), (∀ (ls : Array Slot) (H : Heap) (locs : List Loc) (k0 k1 k2 k3 : Int), zB (-115000) 115000 k0 → zB (-115000) 115000 k1 → zB (-115000) 115000 k2 → zB (-115000) 115000 k3 → va_P (dC, dI) classes (wM ad cI N k0 k1 k2 k3) H → va_S (zAM ad) s.heap H locs → z = r → lv_has ls 6 [(0, .ref (ad 0)), (1, .int (zi a)), (2, .int (zi b)), (3, .int (zi a)), (4, .int (zi b))] → W p l e { frames := 3, cells := 0, slots := 0, locals := 71 } s m ([.ref (ad 0), .int (zi a), .int (zi b)] : List Value).toArray below meth c H locs 0 0 (MQ below (zQ (some (.int (zi r))) (fun H => ∃ k0 k1 k2 k3 : Int, zB (-115000) 115000 k0 ∧ zB (-115000) 115000 k1 ∧ zB (-115000) 115000 k2 ∧ zB (-115000) 115000 k3 ∧ va_P (dC, dI) classes (wM ad cI N k0 k1 k2 k3) H) (zAM ad)) ([.ref (ad 0), .int (zi a), .int (zi b)] : List Value).toArray s 0 0 (zAM ad)) (F0 m 58 ls [])) → ∀ (k : Nat) (i : Int) (ls : Array Slot) (H : Heap) (locs : List Loc) (k0 k1 k2 k3 : Int), zB (-115000) 115000 k0 → zB (-115000) 115000 k1 → zB (-115000) 115000 k2 → zB (-115000) 115000 k3 → va_P (dC, dI) classes (wM ad cI N k0 k1 k2 k3) H → va_S (zAM ad) s.heap H locs → zB 1 60 i → 60 - i < (k : Int) → f_M_interrupter_g2 N a b z k i = r → lv_has ls 6 [(0, .ref (ad 0)), (1, .int (zi a)), (2, .int (zi b)), (3, .int (zi a)), (4, .int (zi b)), (5, .int (zi i))] → W p l e { frames := 3, cells := 0, slots := 0, locals := 71 } s m ([.ref (ad 0), .int (zi a), .int (zi b)] : List Value).toArray below meth c H locs 0 0 (MQ below (zQ (some (.int (zi r))) (fun H => ∃ k0 k1 k2 k3 : Int, zB (-115000) 115000 k0 ∧ zB (-115000) 115000 k1 ∧ zB (-115000) 115000 k2 ∧ zB (-115000) 115000 k3 ∧ va_P (dC, dI) classes (wM ad cI N k0 k1 k2 k3) H) (zAM ad)) ([.ref (ad 0), .int (zi a), .int (zi b)] : List Value).toArray s 0 0 (zAM ad)) (F0 m 28 ls []) := by
      intro z hz k
      induction k with
      | zero =>
        intro i ls H locs k0 k1 k2 k3 hk0 hk1 hk2 hk3 hP hS hb_i  hk hq hl
        exact absurd hk (by have := hb_i.1; have := hb_i.2; omega)
      | succ k ih =>
        intro i ls H locs k0 k1 k2 k3 hk0 hk1 hk2 hk3 hP hS hb_i  hk hq hl
        obtain ⟨hl_i, hh_i⟩ := id hb_i
        replace hq := (f_M_interrupter_g2_s N a b z k i).symm.trans hq
        refine lv_iload hx hb d_M_interrupter_28 (lv_at hl 5 rfl) ?_
        refine lv_iload hx hb d_M_interrupter_30 (lv_at hl 4 rfl) ?_
        refine zr_icmp_ge (tgt := 58) hx hb (zB.I hb_i (by decide) (by decide)) (zB.I hb_b (by decide) (by decide)) d_M_interrupter_32 (by decide) (fun c_25 => ?_) (fun c_25 => ?_)
        · replace hq := (if_neg c_25).symm.trans hq
          exact hz ls _ _ k0 k1 k2 k3 (zB.w hk0 (by decide) (by decide)) (zB.w hk1 (by decide) (by decide)) (zB.w hk2 (by decide) (by decide)) (zB.w hk3 (by decide) (by decide)) hP hS hq (lv_sub hl [0, 1, 2, 3, 4] rfl)
        · replace hq := (if_pos c_25).symm.trans hq
          refine lv_aload_n hx hb d_M_interrupter_35 rfl (lv_at hl 0 rfl) ?_
          refine lv_iload_n hx hb d_M_interrupter_36 rfl (lv_at hl 1 rfl) ?_
          refine lv_iload_n hx hb d_M_interrupter_37 rfl (lv_at hl 2 rfl) ?_
          refine lv_iload hx hb d_M_interrupter_38 (lv_at hl 5 rfl) ?_
          refine zc_n (va_runV (As := [.int (zi a), .int (zi b), .int (zi i)]) (rest := []) ⟨hx, hb, hml, hown, hts⟩ (k_M_isAbove l dC dI ad cI N k0 k1 k2 k3 hI a b i (zB.w hb_a (by decide) (by decide)) (zB.w hb_b (by decide) (by decide)) ⟨by omega, by omega⟩ ) (zcV 3 hts m_299 m_3 m_297 m_298 m_394 rfl rfl q_M_isAbove ⟨Nat.le_of_ble_eq_true rfl, Nat.le_of_ble_eq_true rfl⟩) (zpM0 hP hK [.int (zi a), .int (zi b), .int (zi i)]) rfl rfl hl.1 rfl (lv_room (Nat.le_of_ble_eq_true rfl)) d_M_interrupter_40 ⟨Nat.zero_le _, Nat.zero_le _⟩) ?_
          refine zr_if_eq (tgt := 52) hx hb (zB.I (bb_M_isAbove N a b i) (by decide) (by decide)) d_M_interrupter_43 (by decide) (fun c_26 => ?_) (fun c_26 => ?_)
          · replace hq := (if_pos c_26).symm.trans hq
            have r_27 : zB 0 0 (f_M_isAbove N a b i) := ⟨(Int.le_of_eq c_26.symm), (Int.le_of_eq c_26)⟩
            have b_28 : zB 2 61 (i + 1) := zB.w (zb_add hb_i (zb_c 1)) (by decide) (by decide)
            refine lv_iinc (v := zi (i + 1)) (lv' := [(5, .int (zi (i + 1))), (0, .ref (ad 0)), (1, .int (zi a)), (2, .int (zi b)), (3, .int (zi a)), (4, .int (zi b))]) hx hb d_M_interrupter_52 hl (k := 5) rfl (zi_add _ _) (by decide) rfl (fun ls hl => ?_)
            refine lv_goto (tgt := 28) hx hb d_M_interrupter_55 (by decide) ?_
            exact ih (i + 1) ls _ _ k0 k1 k2 k3 (zB.w hk0 (by decide) (by decide)) (zB.w hk1 (by decide) (by decide)) (zB.w hk2 (by decide) (by decide)) (zB.w hk3 (by decide) (by decide)) hP hS ⟨by have h9 := b_28.1; have h8 := b_28.2; omega, by have h9 := b_28.1; have h8 := b_28.2; omega⟩  (by omega) hq (lv_sub hl [1, 2, 3, 4, 5, 0] rfl)
          · replace hq := (if_neg c_26).symm.trans hq
            have r_29 : zB 1 1 (f_M_isAbove N a b i) := ⟨(by have := (bb_M_isAbove N a b i).1; omega), (bb_M_isAbove N a b i).2⟩
            refine lv_bipush (v := zi 100) hx hb d_M_interrupter_46 (by decide) ?_
            refine lv_iload hx hb d_M_interrupter_48 (lv_at hl 5 rfl) ?_
            have b_30 : zB 101 160 (100 + i) := zB.w (zb_add (zb_c 100) hb_i) (by decide) (by decide)
            refine zr_iadd hx hb d_M_interrupter_50 ?_
            exact zw_i hx hb hr hlocks hq ⟨k0, k1, k2, k3, zB.w hk0 (by decide) (by decide), zB.w hk1 (by decide) (by decide), zB.w hk2 (by decide) (by decide), zB.w hk3 (by decide) (by decide), hP⟩ hS d_M_interrupter_51
    refine L_g2 _ (fun ls H locs k0 k1 k2 k3 hk0 hk1 hk2 hk3 hP hS hq hl => ?_) 61 (a + 1) ls _ _ k0 k1 k2 k3 (zB.w hb_k0 (by decide) (by decide)) (zB.w hb_k1 (by decide) (by decide)) (zB.w hb_k2 (by decide) (by decide)) (zB.w hb_k3 (by decide) (by decide)) hP hS (zB.w b_24 (by decide) (by decide))  (by omega) hq (lv_sub hl [3, 4, 5, 2, 1, 0] rfl)
    refine lv_iload_n hx hb d_M_interrupter_58 rfl (lv_at hl 3 rfl) ?_
    refine lv_iconst (v := zi 1) hx hb d_M_interrupter_59 rfl ?_
    refine zr_iadd hx hb d_M_interrupter_60 ?_
    refine lv_istore (lv' := [(5, .int (zi (a + 1))), (0, .ref (ad 0)), (1, .int (zi a)), (2, .int (zi b)), (3, .int (zi a)), (4, .int (zi b))]) hx hb d_M_interrupter_61 hl (by decide) rfl (fun ls hl => ?_)
    have L_b2 : ∀ (z : Int), (∀ (ls : Array Slot) (H : Heap) (locs : List Loc) (k0 k1 k2 k3 : Int), zB (-115000) 115000 k0 → zB (-115000) 115000 k1 → zB (-115000) 115000 k2 → zB (-115000) 115000 k3 → va_P (dC, dI) classes (wM ad cI N k0 k1 k2 k3) H → va_S (zAM ad) s.heap H locs → z = r → lv_has ls 6 [(0, .ref (ad 0)), (1, .int (zi a)), (2, .int (zi b)), (3, .int (zi a)), (4, .int (zi b))] → W p l e { frames := 3, cells := 0, slots := 0, locals := 71 } s m ([.ref (ad 0), .int (zi a), .int (zi b)] : List Value).toArray below meth c H locs 0 0 (MQ below (zQ (some (.int (zi r))) (fun H => ∃ k0 k1 k2 k3 : Int, zB (-115000) 115000 k0 ∧ zB (-115000) 115000 k1 ∧ zB (-115000) 115000 k2 ∧ zB (-115000) 115000 k3 ∧ va_P (dC, dI) classes (wM ad cI N k0 k1 k2 k3) H) (zAM ad)) ([.ref (ad 0), .int (zi a), .int (zi b)] : List Value).toArray s 0 0 (zAM ad)) (F0 m 94 ls [])) → ∀ (k : Nat) (i : Int) (ls : Array Slot) (H : Heap) (locs : List Loc) (k0 k1 k2 k3 : Int), zB (-115000) 115000 k0 → zB (-115000) 115000 k1 → zB (-115000) 115000 k2 → zB (-115000) 115000 k3 → va_P (dC, dI) classes (wM ad cI N k0 k1 k2 k3) H → va_S (zAM ad) s.heap H locs → zB 1 60 i → 60 - i < (k : Int) → f_M_interrupter_b2 N a b z k i = r → lv_has ls 6 [(0, .ref (ad 0)), (1, .int (zi a)), (2, .int (zi b)), (3, .int (zi a)), (4, .int (zi b)), (5, .int (zi i))] → W p l e { frames := 3, cells := 0, slots := 0, locals := 71 } s m ([.ref (ad 0), .int (zi a), .int (zi b)] : List Value).toArray below meth c H locs 0 0 (MQ below (zQ (some (.int (zi r))) (fun H => ∃ k0 k1 k2 k3 : Int, zB (-115000) 115000 k0 ∧ zB (-115000) 115000 k1 ∧ zB (-115000) 115000 k2 ∧ zB (-115000) 115000 k3 ∧ va_P (dC, dI) classes (wM ad cI N k0 k1 k2 k3) H) (zAM ad)) ([.ref (ad 0), .int (zi a), .int (zi b)] : List Value).toArray s 0 0 (zAM ad)) (F0 m 63 ls []) := by
      intro z hz k
      induction k with
      | zero =>
        intro i ls H locs k0 k1 k2 k3 hk0 hk1 hk2 hk3 hP hS hb_i  hk hq hl
        exact absurd hk (by have := hb_i.1; have := hb_i.2; omega)
      | succ k ih =>
        intro i ls H locs k0 k1 k2 k3 hk0 hk1 hk2 hk3 hP hS hb_i  hk hq hl
        obtain ⟨hl_i, hh_i⟩ := id hb_i
        replace hq := (f_M_interrupter_b2_s N a b z k i).symm.trans hq
        refine lv_iload hx hb d_M_interrupter_63 (lv_at hl 5 rfl) ?_
        refine lv_iload hx hb d_M_interrupter_65 (lv_at hl 4 rfl) ?_
        refine zr_icmp_ge (tgt := 94) hx hb (zB.I hb_i (by decide) (by decide)) (zB.I hb_b (by decide) (by decide)) d_M_interrupter_67 (by decide) (fun c_31 => ?_) (fun c_31 => ?_)
        · replace hq := (if_neg c_31).symm.trans hq
          exact hz ls _ _ k0 k1 k2 k3 (zB.w hk0 (by decide) (by decide)) (zB.w hk1 (by decide) (by decide)) (zB.w hk2 (by decide) (by decide)) (zB.w hk3 (by decide) (by decide)) hP hS hq (lv_sub hl [0, 1, 2, 3, 4] rfl)
        · replace hq := (if_pos c_31).symm.trans hq
          refine lv_aload_n hx hb d_M_interrupter_70 rfl (lv_at hl 0 rfl) ?_
          refine lv_iload_n hx hb d_M_interrupter_71 rfl (lv_at hl 1 rfl) ?_
          refine lv_iload_n hx hb d_M_interrupter_72 rfl (lv_at hl 2 rfl) ?_
          refine lv_iload hx hb d_M_interrupter_73 (lv_at hl 5 rfl) ?_
          refine zc_n (va_runV (As := [.int (zi a), .int (zi b), .int (zi i)]) (rest := []) ⟨hx, hb, hml, hown, hts⟩ (k_M_isBanked l dC dI ad cI N k0 k1 k2 k3 hI a b i (zB.w hb_a (by decide) (by decide)) (zB.w hb_b (by decide) (by decide)) ⟨by omega, by omega⟩ ) (zcV 3 hts m_302 m_3 m_300 m_301 m_395 rfl rfl q_M_isBanked ⟨Nat.le_of_ble_eq_true rfl, Nat.le_of_ble_eq_true rfl⟩) (zpM0 hP hK [.int (zi a), .int (zi b), .int (zi i)]) rfl rfl hl.1 rfl (lv_room (Nat.le_of_ble_eq_true rfl)) d_M_interrupter_75 ⟨Nat.zero_le _, Nat.zero_le _⟩) ?_
          refine zr_if_eq (tgt := 88) hx hb (zB.I (bb_M_isBanked N a b i) (by decide) (by decide)) d_M_interrupter_78 (by decide) (fun c_32 => ?_) (fun c_32 => ?_)
          · replace hq := (if_pos c_32).symm.trans hq
            have r_33 : zB 0 0 (f_M_isBanked N a b i) := ⟨(Int.le_of_eq c_32.symm), (Int.le_of_eq c_32)⟩
            have b_34 : zB 2 61 (i + 1) := zB.w (zb_add hb_i (zb_c 1)) (by decide) (by decide)
            refine lv_iinc (v := zi (i + 1)) (lv' := [(5, .int (zi (i + 1))), (0, .ref (ad 0)), (1, .int (zi a)), (2, .int (zi b)), (3, .int (zi a)), (4, .int (zi b))]) hx hb d_M_interrupter_88 hl (k := 5) rfl (zi_add _ _) (by decide) rfl (fun ls hl => ?_)
            refine lv_goto (tgt := 63) hx hb d_M_interrupter_91 (by decide) ?_
            exact ih (i + 1) ls _ _ k0 k1 k2 k3 (zB.w hk0 (by decide) (by decide)) (zB.w hk1 (by decide) (by decide)) (zB.w hk2 (by decide) (by decide)) (zB.w hk3 (by decide) (by decide)) hP hS ⟨by have h9 := b_34.1; have h8 := b_34.2; omega, by have h9 := b_34.1; have h8 := b_34.2; omega⟩  (by omega) hq (lv_sub hl [1, 2, 3, 4, 5, 0] rfl)
          · replace hq := (if_neg c_32).symm.trans hq
            have r_35 : zB 1 1 (f_M_isBanked N a b i) := ⟨(by have := (bb_M_isBanked N a b i).1; omega), (bb_M_isBanked N a b i).2⟩
            refine lv_sipush (v := zi 200) hx hb d_M_interrupter_81 (by decide) ?_
            refine lv_iload hx hb d_M_interrupter_84 (lv_at hl 5 rfl) ?_
            have b_36 : zB 201 260 (200 + i) := zB.w (zb_add (zb_c 200) hb_i) (by decide) (by decide)
            refine zr_iadd hx hb d_M_interrupter_86 ?_
            exact zw_i hx hb hr hlocks hq ⟨k0, k1, k2, k3, zB.w hk0 (by decide) (by decide), zB.w hk1 (by decide) (by decide), zB.w hk2 (by decide) (by decide), zB.w hk3 (by decide) (by decide), hP⟩ hS d_M_interrupter_87
    refine L_b2 _ (fun ls H locs k0 k1 k2 k3 hk0 hk1 hk2 hk3 hP hS hq hl => ?_) 61 (a + 1) ls _ _ k0 k1 k2 k3 (zB.w hk0 (by decide) (by decide)) (zB.w hk1 (by decide) (by decide)) (zB.w hk2 (by decide) (by decide)) (zB.w hk3 (by decide) (by decide)) hP hS (zB.w b_24 (by decide) (by decide))  (by omega) hq (lv_sub hl [1, 2, 3, 4, 5, 0] rfl)
    refine lv_iconst (v := zi 0) hx hb d_M_interrupter_94 rfl ?_
    refine lv_istore (lv' := [(5, .int (zi 0)), (0, .ref (ad 0)), (1, .int (zi a)), (2, .int (zi b)), (3, .int (zi a)), (4, .int (zi b))]) hx hb d_M_interrupter_95 hl (by decide) rfl (fun ls hl => ?_)
    have L_x2 : ∀ (z : Int), (∀ (ls : Array Slot) (H : Heap) (locs : List Loc) (k0 k1 k2 k3 : Int), zB (-115000) 115000 k0 → zB (-115000) 115000 k1 → zB (-115000) 115000 k2 → zB (-115000) 115000 k3 → va_P (dC, dI) classes (wM ad cI N k0 k1 k2 k3) H → va_S (zAM ad) s.heap H locs → z = r → lv_has ls 6 [(0, .ref (ad 0)), (1, .int (zi a)), (2, .int (zi b))] → W p l e { frames := 3, cells := 0, slots := 0, locals := 71 } s m ([.ref (ad 0), .int (zi a), .int (zi b)] : List Value).toArray below meth c H locs 0 0 (MQ below (zQ (some (.int (zi r))) (fun H => ∃ k0 k1 k2 k3 : Int, zB (-115000) 115000 k0 ∧ zB (-115000) 115000 k1 ∧ zB (-115000) 115000 k2 ∧ zB (-115000) 115000 k3 ∧ va_P (dC, dI) classes (wM ad cI N k0 k1 k2 k3) H) (zAM ad)) ([.ref (ad 0), .int (zi a), .int (zi b)] : List Value).toArray s 0 0 (zAM ad)) (F0 m 174 ls [])) → ∀ (k : Nat) (i : Int) (ls : Array Slot) (H : Heap) (locs : List Loc) (k0 k1 k2 k3 : Int), zB (-115000) 115000 k0 → zB (-115000) 115000 k1 → zB (-115000) 115000 k2 → zB (-115000) 115000 k3 → va_P (dC, dI) classes (wM ad cI N k0 k1 k2 k3) H → va_S (zAM ad) s.heap H locs → zB 0 8 i → i ≤ N 7 1 → 8 - i < (k : Int) → f_M_interrupter_x2 N a b z k i = r → lv_has ls 6 [(0, .ref (ad 0)), (1, .int (zi a)), (2, .int (zi b)), (5, .int (zi i))] → W p l e { frames := 3, cells := 0, slots := 0, locals := 71 } s m ([.ref (ad 0), .int (zi a), .int (zi b)] : List Value).toArray below meth c H locs 0 0 (MQ below (zQ (some (.int (zi r))) (fun H => ∃ k0 k1 k2 k3 : Int, zB (-115000) 115000 k0 ∧ zB (-115000) 115000 k1 ∧ zB (-115000) 115000 k2 ∧ zB (-115000) 115000 k3 ∧ va_P (dC, dI) classes (wM ad cI N k0 k1 k2 k3) H) (zAM ad)) ([.ref (ad 0), .int (zi a), .int (zi b)] : List Value).toArray s 0 0 (zAM ad)) (F0 m 97 ls []) := by
      intro z hz k
      induction k with
      | zero =>
        intro i ls H locs k0 k1 k2 k3 hk0 hk1 hk2 hk3 hP hS hb_i hi_0 hk hq hl
        exact absurd hk (by have := hb_i.1; have := hb_i.2; omega)
      | succ k ih =>
        intro i ls H locs k0 k1 k2 k3 hk0 hk1 hk2 hk3 hP hS hb_i hi_0 hk hq hl
        obtain ⟨hl_i, hh_i⟩ := id hb_i
        replace hq := (f_M_interrupter_x2_s N a b z k i).symm.trans hq
        refine lv_iload hx hb d_M_interrupter_97 (lv_at hl 3 rfl) ?_
        refine lv_aload_n hx hb d_M_interrupter_99 rfl (lv_at hl 0 rfl) ?_
        refine va_get (D := (dC, dI)) (ci := 2) (v := .int (zi (N 7 1))) (C := R_M) (T := T_M) (N := 17) hx hb hw i_M hown hK hP 0 rfl rfl 7 (by decide) (hw _ m_233) (fun _ h9 => h9) rfl d_M_interrupter_100 ?_
        refine zr_icmp_ge (tgt := 174) hx hb (zB.I hb_i (by decide) (by decide)) (zB.I (jN_s1 hI) (by decide) (by decide)) d_M_interrupter_103 (by decide) (fun c_37 => ?_) (fun c_37 => ?_)
        · replace hq := (if_neg c_37).symm.trans hq
          exact hz ls _ _ k0 k1 k2 k3 (zB.w hk0 (by decide) (by decide)) (zB.w hk1 (by decide) (by decide)) (zB.w hk2 (by decide) (by decide)) (zB.w hk3 (by decide) (by decide)) hP hS hq (lv_sub hl [0, 1, 2] rfl)
        · replace hq := (if_pos c_37).symm.trans hq
          refine lv_aload_n hx hb d_M_interrupter_106 rfl (lv_at hl 0 rfl) ?_
          refine lv_iload hx hb d_M_interrupter_107 (lv_at hl 3 rfl) ?_
          refine lv_aload_n hx hb d_M_interrupter_109 rfl (lv_at hl 0 rfl) ?_
          refine va_get (D := (dC, dI)) (ci := 2) (v := .ref (ad 1)) (C := R_M) (T := T_M) (N := 17) hx hb hw i_M hown hK hP 0 rfl rfl 1 (by decide) (hw _ m_227) (fun _ h9 => h9) rfl d_M_interrupter_110 ?_
          refine lv_iload_n hx hb d_M_interrupter_113 rfl (lv_at hl 1 rfl) ?_
          refine zr_iald hx hb hK hP 1 0 (cA := cI) (n := 60) (g := N 0) rfl rfl (i := a) (by omega) (by omega) (by decide) d_M_interrupter_114 ?_
          refine lv_aload_n hx hb d_M_interrupter_115 rfl (lv_at hl 0 rfl) ?_
          refine va_get (D := (dC, dI)) (ci := 2) (v := .ref (ad 2)) (C := R_M) (T := T_M) (N := 17) hx hb hw i_M hown hK hP 0 rfl rfl 2 (by decide) (hw _ m_228) (fun _ h9 => h9) rfl d_M_interrupter_116 ?_
          refine lv_iload_n hx hb d_M_interrupter_119 rfl (lv_at hl 1 rfl) ?_
          refine zr_iald hx hb hK hP 2 0 (cA := cI) (n := 60) (g := N 1) rfl rfl (i := a) (by omega) (by omega) (by decide) d_M_interrupter_120 ?_
          refine lv_aload_n hx hb d_M_interrupter_121 rfl (lv_at hl 0 rfl) ?_
          refine va_get (D := (dC, dI)) (ci := 2) (v := .ref (ad 3)) (C := R_M) (T := T_M) (N := 17) hx hb hw i_M hown hK hP 0 rfl rfl 3 (by decide) (hw _ m_229) (fun _ h9 => h9) rfl d_M_interrupter_122 ?_
          refine lv_iload_n hx hb d_M_interrupter_125 rfl (lv_at hl 1 rfl) ?_
          refine zr_iald hx hb hK hP 3 0 (cA := cI) (n := 60) (g := N 2) rfl rfl (i := a) (by omega) (by omega) (by decide) d_M_interrupter_126 ?_
          refine lv_aload_n hx hb d_M_interrupter_127 rfl (lv_at hl 0 rfl) ?_
          refine va_get (D := (dC, dI)) (ci := 2) (v := .int (zi (N 7 2))) (C := R_M) (T := T_M) (N := 17) hx hb hw i_M hown hK hP 0 rfl rfl 9 (by decide) (hw _ m_235) (fun _ h9 => h9) rfl d_M_interrupter_128 ?_
          have b_38 : zB (-100000) 101000 ((N 2 a) + (N 7 2)) := zB.w (zb_add (jN_a2 hI a) (jN_s2 hI)) (by decide) (by decide)
          refine zr_iadd hx hb d_M_interrupter_131 ?_
          refine lv_aload_n hx hb d_M_interrupter_132 rfl (lv_at hl 0 rfl) ?_
          refine va_get (D := (dC, dI)) (ci := 2) (v := .ref (ad 1)) (C := R_M) (T := T_M) (N := 17) hx hb hw i_M hown hK hP 0 rfl rfl 1 (by decide) (hw _ m_227) (fun _ h9 => h9) rfl d_M_interrupter_133 ?_
          refine lv_iload_n hx hb d_M_interrupter_136 rfl (lv_at hl 2 rfl) ?_
          refine zr_iald hx hb hK hP 1 0 (cA := cI) (n := 60) (g := N 0) rfl rfl (i := b) (by omega) (by omega) (by decide) d_M_interrupter_137 ?_
          refine lv_aload_n hx hb d_M_interrupter_138 rfl (lv_at hl 0 rfl) ?_
          refine va_get (D := (dC, dI)) (ci := 2) (v := .ref (ad 2)) (C := R_M) (T := T_M) (N := 17) hx hb hw i_M hown hK hP 0 rfl rfl 2 (by decide) (hw _ m_228) (fun _ h9 => h9) rfl d_M_interrupter_139 ?_
          refine lv_iload_n hx hb d_M_interrupter_142 rfl (lv_at hl 2 rfl) ?_
          refine zr_iald hx hb hK hP 2 0 (cA := cI) (n := 60) (g := N 1) rfl rfl (i := b) (by omega) (by omega) (by decide) d_M_interrupter_143 ?_
          refine lv_aload_n hx hb d_M_interrupter_144 rfl (lv_at hl 0 rfl) ?_
          refine va_get (D := (dC, dI)) (ci := 2) (v := .ref (ad 3)) (C := R_M) (T := T_M) (N := 17) hx hb hw i_M hown hK hP 0 rfl rfl 3 (by decide) (hw _ m_229) (fun _ h9 => h9) rfl d_M_interrupter_145 ?_
          refine lv_iload_n hx hb d_M_interrupter_148 rfl (lv_at hl 2 rfl) ?_
          refine zr_iald hx hb hK hP 3 0 (cA := cI) (n := 60) (g := N 2) rfl rfl (i := b) (by omega) (by omega) (by decide) d_M_interrupter_149 ?_
          refine lv_aload_n hx hb d_M_interrupter_150 rfl (lv_at hl 0 rfl) ?_
          refine va_get (D := (dC, dI)) (ci := 2) (v := .int (zi (N 7 3))) (C := R_M) (T := T_M) (N := 17) hx hb hw i_M hown hK hP 0 rfl rfl 10 (by decide) (hw _ m_236) (fun _ h9 => h9) rfl d_M_interrupter_151 ?_
          have b_39 : zB (-100000) 101000 ((N 2 b) + (N 7 3)) := zB.w (zb_add (jN_a2 hI b) (jN_s3 hI)) (by decide) (by decide)
          refine zr_iadd hx hb d_M_interrupter_154 ?_
          refine zc_w (va_runV (As := [.int (zi i), .int (zi (N 0 a)), .int (zi (N 1 a)), .int (zi ((N 2 a) + (N 7 2))), .int (zi (N 0 b)), .int (zi (N 1 b)), .int (zi ((N 2 b) + (N 7 3)))]) (rest := []) ⟨hx, hb, hml, hown, hts⟩ (k_M_isBoxed l dC dI ad cI N k0 k1 k2 k3 hI hj (zB.w hk0 (by decide) (by decide)) (zB.w hk1 (by decide) (by decide)) (zB.w hk2 (by decide) (by decide)) (zB.w hk3 (by decide) (by decide)) i (N 0 a) (N 1 a) ((N 2 a) + (N 7 2)) (N 0 b) (N 1 b) ((N 2 b) + (N 7 3)) ⟨by omega, by omega⟩ (zB.w (jN_a0 hI a) (by decide) (by decide)) (zB.w (jN_a1 hI a) (by decide) (by decide)) (zB.w b_38 (by decide) (by decide)) (zB.w (jN_a0 hI b) (by decide) (by decide)) (zB.w (jN_a1 hI b) (by decide) (by decide)) (zB.w b_39 (by decide) (by decide)) ) (zcV 7 hts m_311 m_3 m_309 m_310 m_398 rfl rfl q_M_isBoxed ⟨Nat.le_of_ble_eq_true rfl, Nat.le_of_ble_eq_true rfl⟩) (zpM0 hP hK [.int (zi i), .int (zi (N 0 a)), .int (zi (N 1 a)), .int (zi ((N 2 a) + (N 7 2))), .int (zi (N 0 b)), .int (zi (N 1 b)), .int (zi ((N 2 b) + (N 7 3)))]) rfl rfl hl.1 rfl (lv_room (Nat.le_of_ble_eq_true rfl)) d_M_interrupter_155 ⟨Nat.zero_le _, Nat.zero_le _⟩) hS (fun q _ h => h) (fun q h => h) (fun H locs hP hz1 hk1 hS => ?_)
          clear hz1 hk1
          obtain ⟨k0_e_40, k1_e_40, k2_e_40, k3_e_40, hk0_e_40, hk1_e_40, hk2_e_40, hk3_e_40, hP⟩ := hP
          refine zr_if_eq (tgt := 168) hx hb (zB.I (bb_M_isBoxed N i (N 0 a) (N 1 a) ((N 2 a) + (N 7 2)) (N 0 b) (N 1 b) ((N 2 b) + (N 7 3))) (by decide) (by decide)) d_M_interrupter_158 (by decide) (fun c_41 => ?_) (fun c_41 => ?_)
          · replace hq := (if_pos c_41).symm.trans hq
            have r_42 : zB 0 0 (f_M_isBoxed N i (N 0 a) (N 1 a) ((N 2 a) + (N 7 2)) (N 0 b) (N 1 b) ((N 2 b) + (N 7 3))) := ⟨(Int.le_of_eq c_41.symm), (Int.le_of_eq c_41)⟩
            have b_43 : zB 1 9 (i + 1) := zB.w (zb_add hb_i (zb_c 1)) (by decide) (by decide)
            refine lv_iinc (v := zi (i + 1)) (lv' := [(5, .int (zi (i + 1))), (0, .ref (ad 0)), (1, .int (zi a)), (2, .int (zi b))]) hx hb d_M_interrupter_168 hl (k := 3) rfl (zi_add _ _) (by decide) rfl (fun ls hl => ?_)
            refine lv_goto (tgt := 97) hx hb d_M_interrupter_171 (by decide) ?_
            exact ih (i + 1) ls _ _ k0_e_40 k1_e_40 k2_e_40 k3_e_40 (zB.w hk0_e_40 (by decide) (by decide)) (zB.w hk1_e_40 (by decide) (by decide)) (zB.w hk2_e_40 (by decide) (by decide)) (zB.w hk3_e_40 (by decide) (by decide)) hP hS ⟨by have h9 := b_43.1; have h8 := b_43.2; omega, by have h9 := b_43.1; have h8 := b_43.2; omega⟩ (by omega) (by omega) hq (lv_sub hl [1, 2, 3, 0] rfl)
          · replace hq := (if_neg c_41).symm.trans hq
            have r_44 : zB 1 1 (f_M_isBoxed N i (N 0 a) (N 1 a) ((N 2 a) + (N 7 2)) (N 0 b) (N 1 b) ((N 2 b) + (N 7 3))) := ⟨(by have := (bb_M_isBoxed N i (N 0 a) (N 1 a) ((N 2 a) + (N 7 2)) (N 0 b) (N 1 b) ((N 2 b) + (N 7 3))).1; omega), (bb_M_isBoxed N i (N 0 a) (N 1 a) ((N 2 a) + (N 7 2)) (N 0 b) (N 1 b) ((N 2 b) + (N 7 3))).2⟩
            refine lv_sipush (v := zi 300) hx hb d_M_interrupter_161 (by decide) ?_
            refine lv_iload hx hb d_M_interrupter_164 (lv_at hl 3 rfl) ?_
            have b_45 : zB 300 308 (300 + i) := zB.w (zb_add (zb_c 300) hb_i) (by decide) (by decide)
            refine zr_iadd hx hb d_M_interrupter_166 ?_
            exact zw_i hx hb hr hlocks hq ⟨k0_e_40, k1_e_40, k2_e_40, k3_e_40, zB.w hk0_e_40 (by decide) (by decide), zB.w hk1_e_40 (by decide) (by decide), zB.w hk2_e_40 (by decide) (by decide), zB.w hk3_e_40 (by decide) (by decide), hP⟩ hS d_M_interrupter_167
    refine L_x2 _ (fun ls H locs k0 k1 k2 k3 hk0 hk1 hk2 hk3 hP hS hq hl => ?_) 9 0 ls _ _ k0 k1 k2 k3 (zB.w hk0 (by decide) (by decide)) (zB.w hk1 (by decide) (by decide)) (zB.w hk2 (by decide) (by decide)) (zB.w hk3 (by decide) (by decide)) hP hS (zB.w (zb_c 0) (by decide) (by decide)) (by omega) (by omega) hq (lv_sub hl [1, 2, 3, 0] rfl)
    refine lv_iconst (v := zi 0) hx hb d_M_interrupter_174 rfl ?_
    exact zw_i hx hb hr hlocks hq ⟨k0, k1, k2, k3, zB.w hk0 (by decide) (by decide), zB.w hk1 (by decide) (by decide), zB.w hk2 (by decide) (by decide), zB.w hk3 (by decide) (by decide), hP⟩ hS d_M_interrupter_175
def f_M_sightOf_l (N : Nat → Int → Int) (a : Int) (v : Int) (z : Int → Int) : Nat → Int → Int
  | 0, _ => 0
  | k + 1, w => if (f_M_isStation N (w + 1)) = 0 then (z w) else (if (f_M_interrupter N a (w + 1)) = 0 then (f_M_sightOf_l N a v z k (w + 1)) else (z w))
theorem f_M_sightOf_l_s (N : Nat → Int → Int) (a : Int) (v : Int) (z : Int → Int) (k : Nat) (w : Int) : f_M_sightOf_l N a v z (k + 1) w = (if (f_M_isStation N (w + 1)) = 0 then (z w) else (if (f_M_interrupter N a (w + 1)) = 0 then (f_M_sightOf_l N a v z k (w + 1)) else (z w))) := rfl
def f_M_sightOf_l2 (N : Nat → Int → Int) (a : Int) (v : Int) (z : Int → Int) : Nat → Int → Int
  | 0, _ => 0
  | k + 1, w => if (f_M_isStation N (w + (-1))) = 0 then (z w) else (if (f_M_interrupter N a (w + (-1))) = 0 then (f_M_sightOf_l2 N a v z k (w + (-1))) else (z w))
theorem f_M_sightOf_l2_s (N : Nat → Int → Int) (a : Int) (v : Int) (z : Int → Int) (k : Nat) (w : Int) : f_M_sightOf_l2 N a v z (k + 1) w = (if (f_M_isStation N (w + (-1))) = 0 then (z w) else (if (f_M_interrupter N a (w + (-1))) = 0 then (f_M_sightOf_l2 N a v z k (w + (-1))) else (z w))) := rfl
def f_M_sightOf (N : Nat → Int → Int) (a v : Int) : Int := if v = 0 then (f_M_sightOf_l N a v (fun w => (N 3 w) - (N 3 a)) 61 a) else (f_M_sightOf_l2 N a v (fun w => (N 3 a) - (N 3 w)) 61 a)
theorem br_M_sightOf (N : Nat → Int → Int) (a v : Int) (hI : jN N) (_ : zB 0 59 a) (_ : zB 0 1 v) : zB (-2545620) 2545620 (f_M_sightOf N a v) := by
  have hd : ∀ x y, zB (-2545620) 2545620 (N 3 x - N 3 y) := fun x y => zB.w (zb_sub (jN_a3 hI x) (jN_a3 hI y)) (by decide) (by decide)
  have keyl : ∀ (z : Int → Int), (∀ w, zB (-2545620) 2545620 (z w)) → ∀ (k : Nat) (w : Int), zB (-2545620) 2545620 (f_M_sightOf_l N a v z k w) := by
    intro z hz k
    induction k with
    | zero => intro w; show zB (-2545620) 2545620 0; exact ⟨by decide, by decide⟩
    | succ k ih =>
      intro w
      rw [f_M_sightOf_l_s]
      repeat' split
      all_goals first | exact hz _ | exact ih _
  have keyl2 : ∀ (z : Int → Int), (∀ w, zB (-2545620) 2545620 (z w)) → ∀ (k : Nat) (w : Int), zB (-2545620) 2545620 (f_M_sightOf_l2 N a v z k w) := by
    intro z hz k
    induction k with
    | zero => intro w; show zB (-2545620) 2545620 0; exact ⟨by decide, by decide⟩
    | succ k ih =>
      intro w
      rw [f_M_sightOf_l2_s]
      repeat' split
      all_goals first | exact hz _ | exact ih _
  unfold f_M_sightOf
  split
  · exact keyl _ (fun w => hd _ _) _ _
  · exact keyl2 _ (fun w => hd _ _) _ _
set_option maxHeartbeats 4000000 in
set_option maxRecDepth 100000 in
theorem k_M_sightOf (l : Launch) (dC : Nat → ClassId) (dI : Nat → Nat → Nat) (ad : Nat → Nat) (cI : ClassId) (N : Nat → Int → Int) (k0 k1 k2 k3 : Int) (hI : jN N) (hj : zJ 8 ad) (hb_k0 : zB (-115000) 115000 k0) (hb_k1 : zB (-115000) 115000 k1) (hb_k2 : zB (-115000) 115000 k2) (hb_k3 : zB (-115000) 115000 k3) (a v : Int) (hb_a : zB 0 59 a) (hb_v : zB 0 1 v) : Met l y_M_sightOf (Cond.code y_M_sightOf c_M_sightOf 5 (some .int) :: zT) { frames := 4, cells := 0, slots := 0, locals := 96 } (va_Pc ([.ref (ad 0), .int (zi a), .int (zi v)] : List Value) (zWM dC dI ad cI N k0 k1 k2 k3)) (zQ (some (.int (zi (f_M_sightOf N a v)))) (fun H => ∃ k0 k1 k2 k3 : Int, zB (-115000) 115000 k0 ∧ zB (-115000) 115000 k1 ∧ zB (-115000) 115000 k2 ∧ zB (-115000) 115000 k3 ∧ va_P (dC, dI) classes (wM ad cI N k0 k1 k2 k3) H) (zAM ad)) 0 0 (zAM ad) := by
  refine zh (cc := c_M_sightOf) (C := R_M) (by decide) rfl rfl (Nat.le_of_ble_eq_true rfl) ?_
  intro p e s m below meth c ls hx hb hr hlocks hml hown hname hts hl hB
  have hw : ∀ w9 ∈ zT, w9.before ([.ref (ad 0), .int (zi a), .int (zi v)] : List Value).toArray s = true := fun w9 h => hts w9 (List.mem_cons_of_mem _ h)
  obtain ⟨hP, hK⟩ := hB
  obtain ⟨hn0, hn1⟩ := id (jN_s0 hI)
  have hD := zDM hj cI
  have hS : va_S (zAM ad) s.heap s.heap [] := va_S.rf
  obtain ⟨hz0, hz1⟩ := id (jN_s1 hI)
  obtain ⟨hl_a, hh_a⟩ := id hb_a
  obtain ⟨hl_v, hh_v⟩ := id hb_v
  generalize hq : f_M_sightOf N a v = r
  unfold f_M_sightOf at hq
  replace hl : lv_has ls 5 [(0, .ref (ad 0)), (1, .int (zi a)), (2, .int (zi v))] := hl
  refine lv_iload_n hx hb d_M_sightOf_0 rfl (lv_at hl 2 rfl) ?_
  refine zr_if_eq (tgt := 8) hx hb (zB.I hb_v (by decide) (by decide)) d_M_sightOf_1 (by decide) (fun c_1 => ?_) (fun c_1 => ?_)
  · replace hq := (if_pos c_1).symm.trans hq
    have r_2 : zB 0 0 v := ⟨(Int.le_of_eq c_1.symm), (Int.le_of_eq c_1)⟩
    refine lv_iconst (v := zi 1) hx hb d_M_sightOf_8 rfl ?_
    refine lv_istore_n (lv' := [(3, .int (zi 1)), (0, .ref (ad 0)), (1, .int (zi a)), (2, .int (zi v))]) hx hb d_M_sightOf_9 rfl hl (by decide) rfl (fun ls hl => ?_)
    refine lv_iload_n hx hb d_M_sightOf_10 rfl (lv_at hl 2 rfl) ?_
    refine lv_istore (lv' := [(4, .int (zi a)), (3, .int (zi 1)), (0, .ref (ad 0)), (1, .int (zi a)), (2, .int (zi v))]) hx hb d_M_sightOf_11 hl (by decide) rfl (fun ls hl => ?_)
    have L_l : ∀ (z : Int → Int), (∀ (w : Int), zB 0 59 w → ∀ (ls : Array Slot) (H : Heap) (locs : List Loc) (k0 k1 k2 k3 : Int), zB (-115000) 115000 k0 → zB (-115000) 115000 k1 → zB (-115000) 115000 k2 → zB (-115000) 115000 k3 → va_P (dC, dI) classes (wM ad cI N k0 k1 k2 k3) H → va_S (zAM ad) s.heap H locs → z w = r → lv_has ls 5 [(0, .ref (ad 0)), (1, .int (zi a)), (2, .int (zi v)), (3, .int (zi 1)), (4, .int (zi w))] → W p l e { frames := 4, cells := 0, slots := 0, locals := 96 } s m ([.ref (ad 0), .int (zi a), .int (zi v)] : List Value).toArray below meth c H locs 0 0 (MQ below (zQ (some (.int (zi r))) (fun H => ∃ k0 k1 k2 k3 : Int, zB (-115000) 115000 k0 ∧ zB (-115000) 115000 k1 ∧ zB (-115000) 115000 k2 ∧ zB (-115000) 115000 k3 ∧ va_P (dC, dI) classes (wM ad cI N k0 k1 k2 k3) H) (zAM ad)) ([.ref (ad 0), .int (zi a), .int (zi v)] : List Value).toArray s 0 0 (zAM ad)) (F0 m 45 ls [])) → ∀ (k : Nat) (w : Int) (ls : Array Slot) (H : Heap) (locs : List Loc) (k0 k1 k2 k3 : Int), zB (-115000) 115000 k0 → zB (-115000) 115000 k1 → zB (-115000) 115000 k2 → zB (-115000) 115000 k3 → va_P (dC, dI) classes (wM ad cI N k0 k1 k2 k3) H → va_S (zAM ad) s.heap H locs → zB 0 59 w → 60 - w < (k : Int) → f_M_sightOf_l N a v z k w = r → lv_has ls 5 [(0, .ref (ad 0)), (1, .int (zi a)), (2, .int (zi v)), (3, .int (zi 1)), (4, .int (zi w))] → W p l e { frames := 4, cells := 0, slots := 0, locals := 96 } s m ([.ref (ad 0), .int (zi a), .int (zi v)] : List Value).toArray below meth c H locs 0 0 (MQ below (zQ (some (.int (zi r))) (fun H => ∃ k0 k1 k2 k3 : Int, zB (-115000) 115000 k0 ∧ zB (-115000) 115000 k1 ∧ zB (-115000) 115000 k2 ∧ zB (-115000) 115000 k3 ∧ va_P (dC, dI) classes (wM ad cI N k0 k1 k2 k3) H) (zAM ad)) ([.ref (ad 0), .int (zi a), .int (zi v)] : List Value).toArray s 0 0 (zAM ad)) (F0 m 13 ls []) := by
      intro z hz k
      induction k with
      | zero =>
        intro w ls H locs k0 k1 k2 k3 hk0 hk1 hk2 hk3 hP hS hb_w  hk hq hl
        exact absurd hk (by have := hb_w.1; have := hb_w.2; omega)
      | succ k ih =>
        intro w ls H locs k0 k1 k2 k3 hk0 hk1 hk2 hk3 hP hS hb_w  hk hq hl
        obtain ⟨hl_w, hh_w⟩ := id hb_w
        replace hq := (f_M_sightOf_l_s N a v z k w).symm.trans hq
        refine lv_aload_n hx hb d_M_sightOf_13 rfl (lv_at hl 0 rfl) ?_
        refine lv_iload hx hb d_M_sightOf_14 (lv_at hl 4 rfl) ?_
        refine lv_iload_n hx hb d_M_sightOf_16 rfl (lv_at hl 3 rfl) ?_
        have b_3 : zB 1 60 (w + 1) := zB.w (zb_add hb_w (zb_c 1)) (by decide) (by decide)
        refine zr_iadd hx hb d_M_sightOf_17 ?_
        refine zc_n (va_runV (As := [.int (zi (w + 1))]) (rest := []) ⟨hx, hb, hml, hown, hts⟩ (k_M_isStation l dC dI ad cI N k0 k1 k2 k3 hI (w + 1) (zB.w b_3 (by decide) (by decide)) ) (zcV 1 hts m_273 m_3 m_271 m_272 m_392 rfl rfl q_M_isStation ⟨Nat.le_of_ble_eq_true rfl, Nat.le_of_ble_eq_true rfl⟩) (zpM0 hP hK [.int (zi (w + 1))]) rfl rfl hl.1 rfl (lv_room (Nat.le_of_ble_eq_true rfl)) d_M_sightOf_18 ⟨Nat.zero_le _, Nat.zero_le _⟩) ?_
        refine zr_if_eq (tgt := 45) hx hb (zB.I (bb_M_isStation N (w + 1)) (by decide) (by decide)) d_M_sightOf_21 (by decide) (fun c_4 => ?_) (fun c_4 => ?_)
        · replace hq := (if_pos c_4).symm.trans hq
          have r_5 : zB 0 0 (f_M_isStation N (w + 1)) := ⟨(Int.le_of_eq c_4.symm), (Int.le_of_eq c_4)⟩
          exact hz w (zB.w hb_w (by decide) (by decide)) ls _ _ k0 k1 k2 k3 (zB.w hk0 (by decide) (by decide)) (zB.w hk1 (by decide) (by decide)) (zB.w hk2 (by decide) (by decide)) (zB.w hk3 (by decide) (by decide)) hP hS hq (lv_sub hl [0, 1, 2, 3, 4] rfl)
        · replace hq := (if_neg c_4).symm.trans hq
          have r_6 : zB 1 1 (f_M_isStation N (w + 1)) := ⟨(by have := (bb_M_isStation N (w + 1)).1; omega), (bb_M_isStation N (w + 1)).2⟩
          have g_7 := gf_M_isStation hI c_4
          obtain ⟨g_7l, g_7h⟩ := id g_7.1
          have g_7n := g_7.2
          refine lv_aload_n hx hb d_M_sightOf_24 rfl (lv_at hl 0 rfl) ?_
          refine lv_iload_n hx hb d_M_sightOf_25 rfl (lv_at hl 1 rfl) ?_
          refine lv_iload hx hb d_M_sightOf_26 (lv_at hl 4 rfl) ?_
          refine lv_iload_n hx hb d_M_sightOf_28 rfl (lv_at hl 3 rfl) ?_
          refine zr_iadd hx hb d_M_sightOf_29 ?_
          refine zc_w (va_runV (As := [.int (zi a), .int (zi (w + 1))]) (rest := []) ⟨hx, hb, hml, hown, hts⟩ (k_M_interrupter l dC dI ad cI N k0 k1 k2 k3 hI hj (zB.w hk0 (by decide) (by decide)) (zB.w hk1 (by decide) (by decide)) (zB.w hk2 (by decide) (by decide)) (zB.w hk3 (by decide) (by decide)) a (w + 1) (zB.w hb_a (by decide) (by decide)) (zB.w g_7.1 (by decide) (by decide)) ) (zcV 2 hts m_296 m_3 m_294 m_295 m_393 rfl rfl q_M_interrupter ⟨Nat.le_of_ble_eq_true rfl, Nat.le_of_ble_eq_true rfl⟩) (zpM0 hP hK [.int (zi a), .int (zi (w + 1))]) rfl rfl hl.1 rfl (lv_room (Nat.le_of_ble_eq_true rfl)) d_M_sightOf_30 ⟨Nat.zero_le _, Nat.zero_le _⟩) hS (fun q _ h => h) (fun q h => h) (fun H locs hP hz1 hk1 hS => ?_)
          clear hz1 hk1
          obtain ⟨k0_e_8, k1_e_8, k2_e_8, k3_e_8, hk0_e_8, hk1_e_8, hk2_e_8, hk3_e_8, hP⟩ := hP
          have b_9 : zB 0 400 (f_M_interrupter N a (w + 1)) := br_M_interrupter N a (w + 1) hI (zB.w hb_a (by decide) (by decide)) (zB.w g_7.1 (by decide) (by decide)) 
          refine zr_if_ne (tgt := 45) hx hb (zB.I b_9 (by decide) (by decide)) d_M_sightOf_33 (by decide) (fun c_10 => ?_) (fun c_10 => ?_)
          · replace hq := (if_neg c_10).symm.trans hq
            have r_11 : zB 1 400 (f_M_interrupter N a (w + 1)) := ⟨(by have := b_9.1; omega), b_9.2⟩
            exact hz w (zB.w hb_w (by decide) (by decide)) ls _ _ k0_e_8 k1_e_8 k2_e_8 k3_e_8 (zB.w hk0_e_8 (by decide) (by decide)) (zB.w hk1_e_8 (by decide) (by decide)) (zB.w hk2_e_8 (by decide) (by decide)) (zB.w hk3_e_8 (by decide) (by decide)) hP hS hq (lv_sub hl [0, 1, 2, 3, 4] rfl)
          · replace hq := (if_pos c_10).symm.trans hq
            have r_12 : zB 0 0 (f_M_interrupter N a (w + 1)) := ⟨(Int.le_of_eq c_10.symm), (Int.le_of_eq c_10)⟩
            refine lv_iload hx hb d_M_sightOf_36 (lv_at hl 4 rfl) ?_
            refine lv_iload_n hx hb d_M_sightOf_38 rfl (lv_at hl 3 rfl) ?_
            refine zr_iadd hx hb d_M_sightOf_39 ?_
            refine lv_istore (lv' := [(4, .int (zi (w + 1))), (0, .ref (ad 0)), (1, .int (zi a)), (2, .int (zi v)), (3, .int (zi 1))]) hx hb d_M_sightOf_40 hl (by decide) rfl (fun ls hl => ?_)
            refine lv_goto (tgt := 13) hx hb d_M_sightOf_42 (by decide) ?_
            exact ih (w + 1) ls _ _ k0_e_8 k1_e_8 k2_e_8 k3_e_8 (zB.w hk0_e_8 (by decide) (by decide)) (zB.w hk1_e_8 (by decide) (by decide)) (zB.w hk2_e_8 (by decide) (by decide)) (zB.w hk3_e_8 (by decide) (by decide)) hP hS (zB.w g_7.1 (by decide) (by decide))  (by omega) hq (lv_sub hl [1, 2, 3, 4, 0] rfl)
    refine L_l _ (fun w hb_w ls H locs k0 k1 k2 k3 hk0 hk1 hk2 hk3 hP hS hq hl => ?_) 61 a ls _ _ k0 k1 k2 k3 (zB.w hb_k0 (by decide) (by decide)) (zB.w hb_k1 (by decide) (by decide)) (zB.w hb_k2 (by decide) (by decide)) (zB.w hb_k3 (by decide) (by decide)) hP hS (zB.w hb_a (by decide) (by decide))  (by omega) hq (lv_sub hl [2, 3, 4, 1, 0] rfl)
    obtain ⟨hl_w, hh_w⟩ := id hb_w
    refine lv_iload_n hx hb d_M_sightOf_45 rfl (lv_at hl 2 rfl) ?_
    refine zr_if_eq (tgt := 66) hx hb (zB.I r_2 (by decide) (by decide)) d_M_sightOf_46 (by decide) (fun _ => ?_) (fun c => absurd c_1 c)
    refine lv_aload_n hx hb d_M_sightOf_66 rfl (lv_at hl 0 rfl) ?_
    refine va_get (D := (dC, dI)) (ci := 2) (v := .ref (ad 4)) (C := R_M) (T := T_M) (N := 17) hx hb hw i_M hown hK hP 0 rfl rfl 4 (by decide) (hw _ m_230) (fun _ h9 => h9) rfl d_M_sightOf_67 ?_
    refine lv_iload hx hb d_M_sightOf_70 (lv_at hl 4 rfl) ?_
    refine zr_iald hx hb hK hP 4 0 (cA := cI) (n := 60) (g := N 3) rfl rfl (i := w) (by omega) (by omega) (by decide) d_M_sightOf_72 ?_
    refine lv_aload_n hx hb d_M_sightOf_73 rfl (lv_at hl 0 rfl) ?_
    refine va_get (D := (dC, dI)) (ci := 2) (v := .ref (ad 4)) (C := R_M) (T := T_M) (N := 17) hx hb hw i_M hown hK hP 0 rfl rfl 4 (by decide) (hw _ m_230) (fun _ h9 => h9) rfl d_M_sightOf_74 ?_
    refine lv_iload_n hx hb d_M_sightOf_77 rfl (lv_at hl 1 rfl) ?_
    refine zr_iald hx hb hK hP 4 0 (cA := cI) (n := 60) (g := N 3) rfl rfl (i := a) (by omega) (by omega) (by decide) d_M_sightOf_78 ?_
    have b_13 : zB (-2545620) 2545620 ((N 3 w) - (N 3 a)) := zB.w (zb_sub (jN_a3 hI w) (jN_a3 hI a)) (by decide) (by decide)
    refine zr_isub hx hb d_M_sightOf_79 ?_
    exact zw_i hx hb hr hlocks hq ⟨k0, k1, k2, k3, zB.w hk0 (by decide) (by decide), zB.w hk1 (by decide) (by decide), zB.w hk2 (by decide) (by decide), zB.w hk3 (by decide) (by decide), hP⟩ hS d_M_sightOf_80
  · replace hq := (if_neg c_1).symm.trans hq
    have r_14 : zB 1 1 v := ⟨(by have := hb_v.1; omega), hb_v.2⟩
    refine lv_iconst (v := zi (-1)) hx hb d_M_sightOf_4 rfl ?_
    refine lv_goto (tgt := 9) hx hb d_M_sightOf_5 (by decide) ?_
    refine lv_istore_n (lv' := [(3, .int (zi (-1))), (0, .ref (ad 0)), (1, .int (zi a)), (2, .int (zi v))]) hx hb d_M_sightOf_9 rfl hl (by decide) rfl (fun ls hl => ?_)
    refine lv_iload_n hx hb d_M_sightOf_10 rfl (lv_at hl 2 rfl) ?_
    refine lv_istore (lv' := [(4, .int (zi a)), (3, .int (zi (-1))), (0, .ref (ad 0)), (1, .int (zi a)), (2, .int (zi v))]) hx hb d_M_sightOf_11 hl (by decide) rfl (fun ls hl => ?_)
    have L_l2 : ∀ (z : Int → Int), (∀ (w : Int), zB 0 59 w → ∀ (ls : Array Slot) (H : Heap) (locs : List Loc) (k0 k1 k2 k3 : Int), zB (-115000) 115000 k0 → zB (-115000) 115000 k1 → zB (-115000) 115000 k2 → zB (-115000) 115000 k3 → va_P (dC, dI) classes (wM ad cI N k0 k1 k2 k3) H → va_S (zAM ad) s.heap H locs → z w = r → lv_has ls 5 [(0, .ref (ad 0)), (1, .int (zi a)), (2, .int (zi v)), (3, .int (zi (-1))), (4, .int (zi w))] → W p l e { frames := 4, cells := 0, slots := 0, locals := 96 } s m ([.ref (ad 0), .int (zi a), .int (zi v)] : List Value).toArray below meth c H locs 0 0 (MQ below (zQ (some (.int (zi r))) (fun H => ∃ k0 k1 k2 k3 : Int, zB (-115000) 115000 k0 ∧ zB (-115000) 115000 k1 ∧ zB (-115000) 115000 k2 ∧ zB (-115000) 115000 k3 ∧ va_P (dC, dI) classes (wM ad cI N k0 k1 k2 k3) H) (zAM ad)) ([.ref (ad 0), .int (zi a), .int (zi v)] : List Value).toArray s 0 0 (zAM ad)) (F0 m 45 ls [])) → ∀ (k : Nat) (w : Int) (ls : Array Slot) (H : Heap) (locs : List Loc) (k0 k1 k2 k3 : Int), zB (-115000) 115000 k0 → zB (-115000) 115000 k1 → zB (-115000) 115000 k2 → zB (-115000) 115000 k3 → va_P (dC, dI) classes (wM ad cI N k0 k1 k2 k3) H → va_S (zAM ad) s.heap H locs → zB 0 59 w → w + 1 < (k : Int) → f_M_sightOf_l2 N a v z k w = r → lv_has ls 5 [(0, .ref (ad 0)), (1, .int (zi a)), (2, .int (zi v)), (3, .int (zi (-1))), (4, .int (zi w))] → W p l e { frames := 4, cells := 0, slots := 0, locals := 96 } s m ([.ref (ad 0), .int (zi a), .int (zi v)] : List Value).toArray below meth c H locs 0 0 (MQ below (zQ (some (.int (zi r))) (fun H => ∃ k0 k1 k2 k3 : Int, zB (-115000) 115000 k0 ∧ zB (-115000) 115000 k1 ∧ zB (-115000) 115000 k2 ∧ zB (-115000) 115000 k3 ∧ va_P (dC, dI) classes (wM ad cI N k0 k1 k2 k3) H) (zAM ad)) ([.ref (ad 0), .int (zi a), .int (zi v)] : List Value).toArray s 0 0 (zAM ad)) (F0 m 13 ls []) := by
      intro z hz k
      induction k with
      | zero =>
        intro w ls H locs k0 k1 k2 k3 hk0 hk1 hk2 hk3 hP hS hb_w  hk hq hl
        exact absurd hk (by have := hb_w.1; have := hb_w.2; omega)
      | succ k ih =>
        intro w ls H locs k0 k1 k2 k3 hk0 hk1 hk2 hk3 hP hS hb_w  hk hq hl
        obtain ⟨hl_w, hh_w⟩ := id hb_w
        replace hq := (f_M_sightOf_l2_s N a v z k w).symm.trans hq
        refine lv_aload_n hx hb d_M_sightOf_13 rfl (lv_at hl 0 rfl) ?_
        refine lv_iload hx hb d_M_sightOf_14 (lv_at hl 4 rfl) ?_
        refine lv_iload_n hx hb d_M_sightOf_16 rfl (lv_at hl 3 rfl) ?_
        have b_15 : zB (-1) 58 (w + (-1)) := zB.w (zb_add hb_w (zb_c (-1))) (by decide) (by decide)
        refine zr_iadd hx hb d_M_sightOf_17 ?_
        refine zc_n (va_runV (As := [.int (zi (w + (-1)))]) (rest := []) ⟨hx, hb, hml, hown, hts⟩ (k_M_isStation l dC dI ad cI N k0 k1 k2 k3 hI (w + (-1)) (zB.w b_15 (by decide) (by decide)) ) (zcV 1 hts m_273 m_3 m_271 m_272 m_392 rfl rfl q_M_isStation ⟨Nat.le_of_ble_eq_true rfl, Nat.le_of_ble_eq_true rfl⟩) (zpM0 hP hK [.int (zi (w + (-1)))]) rfl rfl hl.1 rfl (lv_room (Nat.le_of_ble_eq_true rfl)) d_M_sightOf_18 ⟨Nat.zero_le _, Nat.zero_le _⟩) ?_
        refine zr_if_eq (tgt := 45) hx hb (zB.I (bb_M_isStation N (w + (-1))) (by decide) (by decide)) d_M_sightOf_21 (by decide) (fun c_16 => ?_) (fun c_16 => ?_)
        · replace hq := (if_pos c_16).symm.trans hq
          have r_17 : zB 0 0 (f_M_isStation N (w + (-1))) := ⟨(Int.le_of_eq c_16.symm), (Int.le_of_eq c_16)⟩
          exact hz w (zB.w hb_w (by decide) (by decide)) ls _ _ k0 k1 k2 k3 (zB.w hk0 (by decide) (by decide)) (zB.w hk1 (by decide) (by decide)) (zB.w hk2 (by decide) (by decide)) (zB.w hk3 (by decide) (by decide)) hP hS hq (lv_sub hl [0, 1, 2, 3, 4] rfl)
        · replace hq := (if_neg c_16).symm.trans hq
          have r_18 : zB 1 1 (f_M_isStation N (w + (-1))) := ⟨(by have := (bb_M_isStation N (w + (-1))).1; omega), (bb_M_isStation N (w + (-1))).2⟩
          have g_19 := gf_M_isStation hI c_16
          obtain ⟨g_19l, g_19h⟩ := id g_19.1
          have g_19n := g_19.2
          refine lv_aload_n hx hb d_M_sightOf_24 rfl (lv_at hl 0 rfl) ?_
          refine lv_iload_n hx hb d_M_sightOf_25 rfl (lv_at hl 1 rfl) ?_
          refine lv_iload hx hb d_M_sightOf_26 (lv_at hl 4 rfl) ?_
          refine lv_iload_n hx hb d_M_sightOf_28 rfl (lv_at hl 3 rfl) ?_
          refine zr_iadd hx hb d_M_sightOf_29 ?_
          refine zc_w (va_runV (As := [.int (zi a), .int (zi (w + (-1)))]) (rest := []) ⟨hx, hb, hml, hown, hts⟩ (k_M_interrupter l dC dI ad cI N k0 k1 k2 k3 hI hj (zB.w hk0 (by decide) (by decide)) (zB.w hk1 (by decide) (by decide)) (zB.w hk2 (by decide) (by decide)) (zB.w hk3 (by decide) (by decide)) a (w + (-1)) (zB.w hb_a (by decide) (by decide)) (zB.w g_19.1 (by decide) (by decide)) ) (zcV 2 hts m_296 m_3 m_294 m_295 m_393 rfl rfl q_M_interrupter ⟨Nat.le_of_ble_eq_true rfl, Nat.le_of_ble_eq_true rfl⟩) (zpM0 hP hK [.int (zi a), .int (zi (w + (-1)))]) rfl rfl hl.1 rfl (lv_room (Nat.le_of_ble_eq_true rfl)) d_M_sightOf_30 ⟨Nat.zero_le _, Nat.zero_le _⟩) hS (fun q _ h => h) (fun q h => h) (fun H locs hP hz1 hk1 hS => ?_)
          clear hz1 hk1
          obtain ⟨k0_e_20, k1_e_20, k2_e_20, k3_e_20, hk0_e_20, hk1_e_20, hk2_e_20, hk3_e_20, hP⟩ := hP
          have b_21 : zB 0 400 (f_M_interrupter N a (w + (-1))) := br_M_interrupter N a (w + (-1)) hI (zB.w hb_a (by decide) (by decide)) (zB.w g_19.1 (by decide) (by decide)) 
          refine zr_if_ne (tgt := 45) hx hb (zB.I b_21 (by decide) (by decide)) d_M_sightOf_33 (by decide) (fun c_22 => ?_) (fun c_22 => ?_)
          · replace hq := (if_neg c_22).symm.trans hq
            have r_23 : zB 1 400 (f_M_interrupter N a (w + (-1))) := ⟨(by have := b_21.1; omega), b_21.2⟩
            exact hz w (zB.w hb_w (by decide) (by decide)) ls _ _ k0_e_20 k1_e_20 k2_e_20 k3_e_20 (zB.w hk0_e_20 (by decide) (by decide)) (zB.w hk1_e_20 (by decide) (by decide)) (zB.w hk2_e_20 (by decide) (by decide)) (zB.w hk3_e_20 (by decide) (by decide)) hP hS hq (lv_sub hl [0, 1, 2, 3, 4] rfl)
          · replace hq := (if_pos c_22).symm.trans hq
            have r_24 : zB 0 0 (f_M_interrupter N a (w + (-1))) := ⟨(Int.le_of_eq c_22.symm), (Int.le_of_eq c_22)⟩
            refine lv_iload hx hb d_M_sightOf_36 (lv_at hl 4 rfl) ?_
            refine lv_iload_n hx hb d_M_sightOf_38 rfl (lv_at hl 3 rfl) ?_
            refine zr_iadd hx hb d_M_sightOf_39 ?_
            refine lv_istore (lv' := [(4, .int (zi (w + (-1)))), (0, .ref (ad 0)), (1, .int (zi a)), (2, .int (zi v)), (3, .int (zi (-1)))]) hx hb d_M_sightOf_40 hl (by decide) rfl (fun ls hl => ?_)
            refine lv_goto (tgt := 13) hx hb d_M_sightOf_42 (by decide) ?_
            exact ih (w + (-1)) ls _ _ k0_e_20 k1_e_20 k2_e_20 k3_e_20 (zB.w hk0_e_20 (by decide) (by decide)) (zB.w hk1_e_20 (by decide) (by decide)) (zB.w hk2_e_20 (by decide) (by decide)) (zB.w hk3_e_20 (by decide) (by decide)) hP hS (zB.w g_19.1 (by decide) (by decide))  (by omega) hq (lv_sub hl [1, 2, 3, 4, 0] rfl)
    refine L_l2 _ (fun w hb_w ls H locs k0 k1 k2 k3 hk0 hk1 hk2 hk3 hP hS hq hl => ?_) 61 a ls _ _ k0 k1 k2 k3 (zB.w hb_k0 (by decide) (by decide)) (zB.w hb_k1 (by decide) (by decide)) (zB.w hb_k2 (by decide) (by decide)) (zB.w hb_k3 (by decide) (by decide)) hP hS (zB.w hb_a (by decide) (by decide))  (by omega) hq (lv_sub hl [2, 3, 4, 1, 0] rfl)
    obtain ⟨hl_w, hh_w⟩ := id hb_w
    refine lv_iload_n hx hb d_M_sightOf_45 rfl (lv_at hl 2 rfl) ?_
    refine zr_if_eq (tgt := 66) hx hb (zB.I r_14 (by decide) (by decide)) d_M_sightOf_46 (by decide) (fun c => absurd c c_1) (fun _ => ?_)
    refine lv_aload_n hx hb d_M_sightOf_49 rfl (lv_at hl 0 rfl) ?_
    refine va_get (D := (dC, dI)) (ci := 2) (v := .ref (ad 4)) (C := R_M) (T := T_M) (N := 17) hx hb hw i_M hown hK hP 0 rfl rfl 4 (by decide) (hw _ m_230) (fun _ h9 => h9) rfl d_M_sightOf_50 ?_
    refine lv_iload_n hx hb d_M_sightOf_53 rfl (lv_at hl 1 rfl) ?_
    refine zr_iald hx hb hK hP 4 0 (cA := cI) (n := 60) (g := N 3) rfl rfl (i := a) (by omega) (by omega) (by decide) d_M_sightOf_54 ?_
    refine lv_aload_n hx hb d_M_sightOf_55 rfl (lv_at hl 0 rfl) ?_
    refine va_get (D := (dC, dI)) (ci := 2) (v := .ref (ad 4)) (C := R_M) (T := T_M) (N := 17) hx hb hw i_M hown hK hP 0 rfl rfl 4 (by decide) (hw _ m_230) (fun _ h9 => h9) rfl d_M_sightOf_56 ?_
    refine lv_iload hx hb d_M_sightOf_59 (lv_at hl 4 rfl) ?_
    refine zr_iald hx hb hK hP 4 0 (cA := cI) (n := 60) (g := N 3) rfl rfl (i := w) (by omega) (by omega) (by decide) d_M_sightOf_61 ?_
    have b_25 : zB (-2545620) 2545620 ((N 3 a) - (N 3 w)) := zB.w (zb_sub (jN_a3 hI a) (jN_a3 hI w)) (by decide) (by decide)
    refine zr_isub hx hb d_M_sightOf_62 ?_
    refine lv_goto (tgt := 80) hx hb d_M_sightOf_63 (by decide) ?_
    exact zw_i hx hb hr hlocks hq ⟨k0, k1, k2, k3, zB.w hk0 (by decide) (by decide), zB.w hk1 (by decide) (by decide), zB.w hk2 (by decide) (by decide), zB.w hk3 (by decide) (by decide), hP⟩ hS d_M_sightOf_80
def f_M_needOf (N : Nat → Int → Int) (a v w : Int) : Int := if v = 0 then (if (f_M_isStation N (a + 1)) = 0 then (if ((N 7 5) + 0) < 20 then ((Int.tdiv ((w * (N 7 4)) * 10) 36) + (Int.tdiv ((100000 * w) * w) (2592 * 20))) else ((Int.tdiv ((w * (N 7 4)) * 10) 36) + (Int.tdiv ((100000 * w) * w) (2592 * ((N 7 5) + 0))))) else (if ((N 7 5) + (Int.tdiv (981 * ((N 2 (a + 1)) - (N 2 a))) (10 * ((N 3 (a + 1)) - (N 3 a))))) < 20 then ((Int.tdiv ((w * (N 7 4)) * 10) 36) + (Int.tdiv ((100000 * w) * w) (2592 * 20))) else ((Int.tdiv ((w * (N 7 4)) * 10) 36) + (Int.tdiv ((100000 * w) * w) (2592 * ((N 7 5) + (Int.tdiv (981 * ((N 2 (a + 1)) - (N 2 a))) (10 * ((N 3 (a + 1)) - (N 3 a)))))))))) else (if (f_M_isStation N (a - 1)) = 0 then (if ((N 7 5) + 0) < 20 then ((Int.tdiv ((w * (N 7 4)) * 10) 36) + (Int.tdiv ((100000 * w) * w) (2592 * 20))) else ((Int.tdiv ((w * (N 7 4)) * 10) 36) + (Int.tdiv ((100000 * w) * w) (2592 * ((N 7 5) + 0))))) else (if ((N 7 5) + (Int.tdiv (981 * ((N 2 (a - 1)) - (N 2 a))) (10 * ((N 3 a) - (N 3 (a - 1)))))) < 20 then ((Int.tdiv ((w * (N 7 4)) * 10) 36) + (Int.tdiv ((100000 * w) * w) (2592 * 20))) else ((Int.tdiv ((w * (N 7 4)) * 10) 36) + (Int.tdiv ((100000 * w) * w) (2592 * ((N 7 5) + (Int.tdiv (981 * ((N 2 (a - 1)) - (N 2 a))) (10 * ((N 3 a) - (N 3 (a - 1)))))))))))
theorem br_M_needOf (N : Nat → Int → Int) (a v w : Int) (hI : jN N) (_ : zB 0 59 a) (_ : zB 0 1 v) (hw : zB 0 200 w) (_ : a < N 7 0) : zB 0 82716 (f_M_needOf N a v w) := by
  have h1 : zB 0 5555 (Int.tdiv ((w * N 7 4) * 10) 36) := zB.w (zb_tdivp (c := 36) (zb_mulp (zb_mulp hw (jN_s4 hI) (by decide) (by decide)) (zb_c 10) (by decide) (by decide)) (by decide) (by decide) (by decide)) (by decide) (by decide)
  have h3 : ∀ x : Int, 20 ≤ x → zB 0 77161 (Int.tdiv ((100000 * w) * w) (2592 * x)) := fun x hx => zB.w (zb_tdivp (c := 51840) (zb_mulp (zb_mulp (zb_c 100000) hw (by decide) (by decide)) hw (by decide) (by decide)) (by decide) (by decide) (by omega)) (by decide) (by decide)
  have key : ∀ x : Int, 20 ≤ x → zB 0 82716 (Int.tdiv ((w * N 7 4) * 10) 36 + Int.tdiv ((100000 * w) * w) (2592 * x)) := fun x hx => zB.w (zb_add h1 (h3 x hx)) (by decide) (by decide)
  unfold f_M_needOf
  repeat' split
  all_goals exact key _ (by omega)
set_option maxHeartbeats 4000000 in
set_option maxRecDepth 100000 in
theorem k_M_needOf (l : Launch) (dC : Nat → ClassId) (dI : Nat → Nat → Nat) (ad : Nat → Nat) (cI : ClassId) (N : Nat → Int → Int) (k0 k1 k2 k3 : Int) (hI : jN N) (a v w : Int) (hb_a : zB 0 59 a) (hb_v : zB 0 1 v) (hb_w : zB 0 200 w) (hy_0 : a < N 7 0) : Met l y_M_needOf (Cond.code y_M_needOf c_M_needOf 9 (some .int) :: zT) { frames := 1, cells := 0, slots := 0, locals := 21 } (va_Pc ([.ref (ad 0), .int (zi a), .int (zi v), .int (zi w)] : List Value) (zWM dC dI ad cI N k0 k1 k2 k3)) (zR (.int (zi (f_M_needOf N a v w)))) 0 0 (fun _ => False) := by
  refine zh (cc := c_M_needOf) (C := R_M) (by decide) rfl rfl (Nat.le_of_ble_eq_true rfl) ?_
  intro p e s m below meth c ls hx hb hr hlocks hml hown hname hts hl hB
  have hw : ∀ w9 ∈ zT, w9.before ([.ref (ad 0), .int (zi a), .int (zi v), .int (zi w)] : List Value).toArray s = true := fun w9 h => hts w9 (List.mem_cons_of_mem _ h)
  obtain ⟨hP, hK⟩ := hB
  obtain ⟨hn0, hn1⟩ := id (jN_s0 hI)
  obtain ⟨hz0, hz1⟩ := id (jN_s1 hI)
  obtain ⟨hl_a, hh_a⟩ := id hb_a
  obtain ⟨hl_v, hh_v⟩ := id hb_v
  obtain ⟨hl_w, hh_w⟩ := id hb_w
  generalize hq : f_M_needOf N a v w = r
  unfold f_M_needOf at hq
  replace hl : lv_has ls 9 [(0, .ref (ad 0)), (1, .int (zi a)), (2, .int (zi v)), (3, .int (zi w))] := hl
  refine lv_iload_n hx hb d_M_needOf_0 rfl (lv_at hl 2 rfl) ?_
  refine zr_if_eq (tgt := 10) hx hb (zB.I hb_v (by decide) (by decide)) d_M_needOf_1 (by decide) (fun c_1 => ?_) (fun c_1 => ?_)
  · replace hq := (if_pos c_1).symm.trans hq
    have r_2 : zB 0 0 v := ⟨(Int.le_of_eq c_1.symm), (Int.le_of_eq c_1)⟩
    refine lv_iload_n hx hb d_M_needOf_10 rfl (lv_at hl 1 rfl) ?_
    refine lv_iconst (v := zi 1) hx hb d_M_needOf_11 rfl ?_
    have b_3 : zB 1 60 (a + 1) := zB.w (zb_add hb_a (zb_c 1)) (by decide) (by decide)
    refine zr_iadd hx hb d_M_needOf_12 ?_
    refine lv_istore (lv' := [(4, .int (zi (a + 1))), (0, .ref (ad 0)), (1, .int (zi a)), (2, .int (zi v)), (3, .int (zi w))]) hx hb d_M_needOf_13 hl (by decide) rfl (fun ls hl => ?_)
    refine lv_lconst (v := zl 0) hx hb d_M_needOf_15 (by decide) ?_
    refine lv_lstore (lv' := [(5, .long (zl 0)), (4, .int (zi (a + 1))), (0, .ref (ad 0)), (1, .int (zi a)), (2, .int (zi v)), (3, .int (zi w))]) hx hb d_M_needOf_16 hl (by decide) rfl (fun ls hl => ?_)
    refine lv_aload_n hx hb d_M_needOf_18 rfl (lv_at hl 2 rfl) ?_
    refine lv_iload hx hb d_M_needOf_19 (lv_at hl 1 rfl) ?_
    refine zc_n (va_runV (As := [.int (zi (a + 1))]) (rest := []) ⟨hx, hb, hml, hown, hts⟩ (k_M_isStation l dC dI ad cI N k0 k1 k2 k3 hI (a + 1) (zB.w b_3 (by decide) (by decide)) ) (zcV 1 hts m_273 m_3 m_271 m_272 m_392 rfl rfl q_M_isStation ⟨Nat.le_of_ble_eq_true rfl, Nat.le_of_ble_eq_true rfl⟩) (zpM0 hP hK [.int (zi (a + 1))]) rfl rfl hl.1 rfl (lv_room (Nat.le_of_ble_eq_true rfl)) d_M_needOf_21 ⟨Nat.zero_le _, Nat.zero_le _⟩) ?_
    refine zr_if_eq (tgt := 94) hx hb (zB.I (bb_M_isStation N (a + 1)) (by decide) (by decide)) d_M_needOf_24 (by decide) (fun c_4 => ?_) (fun c_4 => ?_)
    · replace hq := (if_pos c_4).symm.trans hq
      have r_5 : zB 0 0 (f_M_isStation N (a + 1)) := ⟨(Int.le_of_eq c_4.symm), (Int.le_of_eq c_4)⟩
      refine lv_aload_n hx hb d_M_needOf_94 rfl (lv_at hl 2 rfl) ?_
      refine va_get (D := (dC, dI)) (ci := 2) (v := .int (zi (N 7 5))) (C := R_M) (T := T_M) (N := 17) hx hb hw i_M hown hK hP 0 rfl rfl 12 (by decide) (hw _ m_238) (fun _ h9 => h9) rfl d_M_needOf_95 ?_
      refine zr_i2l hx hb (zB.I (jN_s5 hI) (by decide) (by decide)) d_M_needOf_98 ?_
      refine lv_lload hx hb d_M_needOf_99 (lv_at hl 0 rfl) ?_
      have b_6 : zB 50 1000 ((N 7 5) + 0) := zB.w (zb_add (jN_s5 hI) (zb_c 0)) (by decide) (by decide)
      refine zr_ladd hx hb d_M_needOf_101 ?_
      refine lv_ldc2 (v := zl 20) hx hb hown (hw _ m_334) d_M_needOf_102 ?_
      refine zr_lcmp_ge (tgt := 115) hx hb (zB.L b_6 (by decide) (by decide)) (zB.L (zb_c 20) (by decide) (by decide)) d_M_needOf_105 d_M_needOf_106 (by decide) (fun c_7 => ?_) (fun c_7 => ?_)
      · replace hq := (if_neg c_7).symm.trans hq
        refine lv_aload_n hx hb d_M_needOf_115 rfl (lv_at hl 2 rfl) ?_
        refine va_get (D := (dC, dI)) (ci := 2) (v := .int (zi (N 7 5))) (C := R_M) (T := T_M) (N := 17) hx hb hw i_M hown hK hP 0 rfl rfl 12 (by decide) (hw _ m_238) (fun _ h9 => h9) rfl d_M_needOf_116 ?_
        refine zr_i2l hx hb (zB.I (jN_s5 hI) (by decide) (by decide)) d_M_needOf_119 ?_
        refine lv_lload hx hb d_M_needOf_120 (lv_at hl 0 rfl) ?_
        refine zr_ladd hx hb d_M_needOf_122 ?_
        refine lv_lstore (lv' := [(7, .long (zl ((N 7 5) + 0))), (5, .long (zl 0)), (4, .int (zi (a + 1))), (0, .ref (ad 0)), (1, .int (zi a)), (2, .int (zi v)), (3, .int (zi w))]) hx hb d_M_needOf_123 hl (by decide) rfl (fun ls hl => ?_)
        refine lv_iload_n hx hb d_M_needOf_125 rfl (lv_at hl 6 rfl) ?_
        refine lv_aload_n hx hb d_M_needOf_126 rfl (lv_at hl 3 rfl) ?_
        refine va_get (D := (dC, dI)) (ci := 2) (v := .int (zi (N 7 4))) (C := R_M) (T := T_M) (N := 17) hx hb hw i_M hown hK hP 0 rfl rfl 11 (by decide) (hw _ m_237) (fun _ h9 => h9) rfl d_M_needOf_127 ?_
        have b_8 : zB 0 20000 (w * (N 7 4)) := zB.w (zb_mulq hb_w (jN_s4 hI) (by decide) (by decide)) (by decide) (by decide)
        refine zr_imul hx hb d_M_needOf_130 ?_
        refine lv_bipush (v := zi 10) hx hb d_M_needOf_131 (by decide) ?_
        have b_9 : zB 0 200000 ((w * (N 7 4)) * 10) := zB.w (zb_mulq b_8 (zb_c 10) (by decide) (by decide)) (by decide) (by decide)
        refine zr_imul hx hb d_M_needOf_133 ?_
        refine lv_bipush (v := zi 36) hx hb d_M_needOf_134 (by decide) ?_
        refine zr_idiv hx hb (zB.I b_9 (by decide) (by decide)) (zB.I (zb_c 36) (by decide) (by decide)) (Int.lt_of_lt_of_le (by decide) (zb_c 36).1) d_M_needOf_136 ?_
        have b_10 : zB 0 5555 (Int.tdiv ((w * (N 7 4)) * 10) 36) := zB.w (zb_tdivp (c := 36) b_9 (by decide) (by decide) (zb_c 36).1) (by decide) (by decide)
        refine lv_ldc2 (v := zl 100000) hx hb hown (hw _ m_261) d_M_needOf_137 ?_
        refine lv_iload_n hx hb d_M_needOf_140 rfl (lv_at hl 6 rfl) ?_
        refine zr_i2l hx hb (zB.I hb_w (by decide) (by decide)) d_M_needOf_141 ?_
        have b_11 : zB 0 20000000 (100000 * w) := zB.w (zb_mulq (zb_c 100000) hb_w (by decide) (by decide)) (by decide) (by decide)
        refine zr_lmul hx hb d_M_needOf_142 ?_
        refine lv_iload_n hx hb d_M_needOf_143 rfl (lv_at hl 6 rfl) ?_
        refine zr_i2l hx hb (zB.I hb_w (by decide) (by decide)) d_M_needOf_144 ?_
        have b_12 : zB 0 4000000000 ((100000 * w) * w) := zB.w (zb_mulq b_11 hb_w (by decide) (by decide)) (by decide) (by decide)
        refine zr_lmul hx hb d_M_needOf_145 ?_
        refine lv_ldc2 (v := zl 2592) hx hb hown (hw _ m_335) d_M_needOf_146 ?_
        refine lv_lload hx hb d_M_needOf_149 (lv_at hl 0 rfl) ?_
        have b_13 : zB 129600 2592000 (2592 * ((N 7 5) + 0)) := zB.w (zb_mulq (zb_c 2592) b_6 (by decide) (by decide)) (by decide) (by decide)
        refine zr_lmul hx hb d_M_needOf_151 ?_
        refine zr_ldiv hx hb (zB.L b_12 (by decide) (by decide)) (zB.L b_13 (by decide) (by decide)) (Int.lt_of_lt_of_le (by decide) b_13.1) d_M_needOf_152 ?_
        have b_14 : zB 0 30864 (Int.tdiv ((100000 * w) * w) (2592 * ((N 7 5) + 0))) := zB.w (zb_tdivp (c := 129600) b_12 (by decide) (by decide) b_13.1) (by decide) (by decide)
        refine zr_l2i hx hb d_M_needOf_153 ?_
        have b_15 : zB 0 36419 ((Int.tdiv ((w * (N 7 4)) * 10) 36) + (Int.tdiv ((100000 * w) * w) (2592 * ((N 7 5) + 0)))) := zB.w (zb_add b_10 b_14) (by decide) (by decide)
        refine zr_iadd hx hb d_M_needOf_154 ?_
        exact ze_i hx hb hr hlocks hq d_M_needOf_155
      · replace hq := (if_pos c_7).symm.trans hq
        have r_16 : zB 50 19 ((N 7 5) + 0) := ⟨b_6.1, (Int.le_sub_one_of_lt c_7)⟩
        refine lv_ldc2 (v := zl 20) hx hb hown (hw _ m_334) d_M_needOf_109 ?_
        refine lv_goto (tgt := 123) hx hb d_M_needOf_112 (by decide) ?_
        refine lv_lstore (lv' := [(7, .long (zl 20)), (5, .long (zl 0)), (4, .int (zi (a + 1))), (0, .ref (ad 0)), (1, .int (zi a)), (2, .int (zi v)), (3, .int (zi w))]) hx hb d_M_needOf_123 hl (by decide) rfl (fun ls hl => ?_)
        refine lv_iload_n hx hb d_M_needOf_125 rfl (lv_at hl 6 rfl) ?_
        refine lv_aload_n hx hb d_M_needOf_126 rfl (lv_at hl 3 rfl) ?_
        refine va_get (D := (dC, dI)) (ci := 2) (v := .int (zi (N 7 4))) (C := R_M) (T := T_M) (N := 17) hx hb hw i_M hown hK hP 0 rfl rfl 11 (by decide) (hw _ m_237) (fun _ h9 => h9) rfl d_M_needOf_127 ?_
        have b_17 : zB 0 20000 (w * (N 7 4)) := zB.w (zb_mulq hb_w (jN_s4 hI) (by decide) (by decide)) (by decide) (by decide)
        refine zr_imul hx hb d_M_needOf_130 ?_
        refine lv_bipush (v := zi 10) hx hb d_M_needOf_131 (by decide) ?_
        have b_18 : zB 0 200000 ((w * (N 7 4)) * 10) := zB.w (zb_mulq b_17 (zb_c 10) (by decide) (by decide)) (by decide) (by decide)
        refine zr_imul hx hb d_M_needOf_133 ?_
        refine lv_bipush (v := zi 36) hx hb d_M_needOf_134 (by decide) ?_
        refine zr_idiv hx hb (zB.I b_18 (by decide) (by decide)) (zB.I (zb_c 36) (by decide) (by decide)) (Int.lt_of_lt_of_le (by decide) (zb_c 36).1) d_M_needOf_136 ?_
        have b_19 : zB 0 5555 (Int.tdiv ((w * (N 7 4)) * 10) 36) := zB.w (zb_tdivp (c := 36) b_18 (by decide) (by decide) (zb_c 36).1) (by decide) (by decide)
        refine lv_ldc2 (v := zl 100000) hx hb hown (hw _ m_261) d_M_needOf_137 ?_
        refine lv_iload_n hx hb d_M_needOf_140 rfl (lv_at hl 6 rfl) ?_
        refine zr_i2l hx hb (zB.I hb_w (by decide) (by decide)) d_M_needOf_141 ?_
        have b_20 : zB 0 20000000 (100000 * w) := zB.w (zb_mulq (zb_c 100000) hb_w (by decide) (by decide)) (by decide) (by decide)
        refine zr_lmul hx hb d_M_needOf_142 ?_
        refine lv_iload_n hx hb d_M_needOf_143 rfl (lv_at hl 6 rfl) ?_
        refine zr_i2l hx hb (zB.I hb_w (by decide) (by decide)) d_M_needOf_144 ?_
        have b_21 : zB 0 4000000000 ((100000 * w) * w) := zB.w (zb_mulq b_20 hb_w (by decide) (by decide)) (by decide) (by decide)
        refine zr_lmul hx hb d_M_needOf_145 ?_
        refine lv_ldc2 (v := zl 2592) hx hb hown (hw _ m_335) d_M_needOf_146 ?_
        refine lv_lload hx hb d_M_needOf_149 (lv_at hl 0 rfl) ?_
        have b_22 : zB 51840 51840 (2592 * 20) := zB.w (zb_mulq (zb_c 2592) (zb_c 20) (by decide) (by decide)) (by decide) (by decide)
        refine zr_lmul hx hb d_M_needOf_151 ?_
        refine zr_ldiv hx hb (zB.L b_21 (by decide) (by decide)) (zB.L b_22 (by decide) (by decide)) (Int.lt_of_lt_of_le (by decide) b_22.1) d_M_needOf_152 ?_
        have b_23 : zB 0 77160 (Int.tdiv ((100000 * w) * w) (2592 * 20)) := zB.w (zb_tdivp (c := 51840) b_21 (by decide) (by decide) b_22.1) (by decide) (by decide)
        refine zr_l2i hx hb d_M_needOf_153 ?_
        have b_24 : zB 0 82715 ((Int.tdiv ((w * (N 7 4)) * 10) 36) + (Int.tdiv ((100000 * w) * w) (2592 * 20))) := zB.w (zb_add b_19 b_23) (by decide) (by decide)
        refine zr_iadd hx hb d_M_needOf_154 ?_
        exact ze_i hx hb hr hlocks hq d_M_needOf_155
    · replace hq := (if_neg c_4).symm.trans hq
      have r_25 : zB 1 1 (f_M_isStation N (a + 1)) := ⟨(by have := (bb_M_isStation N (a + 1)).1; omega), (bb_M_isStation N (a + 1)).2⟩
      have g_26 := gf_M_isStation hI c_4
      obtain ⟨g_26l, g_26h⟩ := id g_26.1
      have g_26n := g_26.2
      have hm := jN_m hI a (a + 1) (by omega) (by omega) (by omega)
      refine lv_iload_n hx hb d_M_needOf_27 rfl (lv_at hl 4 rfl) ?_
      refine zr_if_eq (tgt := 49) hx hb (zB.I r_2 (by decide) (by decide)) d_M_needOf_28 (by decide) (fun _ => ?_) (fun c => absurd c_1 c)
      refine lv_aload_n hx hb d_M_needOf_49 rfl (lv_at hl 2 rfl) ?_
      refine va_get (D := (dC, dI)) (ci := 2) (v := .ref (ad 4)) (C := R_M) (T := T_M) (N := 17) hx hb hw i_M hown hK hP 0 rfl rfl 4 (by decide) (hw _ m_230) (fun _ h9 => h9) rfl d_M_needOf_50 ?_
      refine lv_iload hx hb d_M_needOf_53 (lv_at hl 1 rfl) ?_
      refine zr_iald hx hb hK hP 4 0 (cA := cI) (n := 60) (g := N 3) rfl rfl (i := a + 1) (by omega) (by omega) (by decide) d_M_needOf_55 ?_
      refine lv_aload_n hx hb d_M_needOf_56 rfl (lv_at hl 2 rfl) ?_
      refine va_get (D := (dC, dI)) (ci := 2) (v := .ref (ad 4)) (C := R_M) (T := T_M) (N := 17) hx hb hw i_M hown hK hP 0 rfl rfl 4 (by decide) (hw _ m_230) (fun _ h9 => h9) rfl d_M_needOf_57 ?_
      refine lv_iload_n hx hb d_M_needOf_60 rfl (lv_at hl 3 rfl) ?_
      refine zr_iald hx hb hK hP 4 0 (cA := cI) (n := 60) (g := N 3) rfl rfl (i := a) (by omega) (by omega) (by decide) d_M_needOf_61 ?_
      have b_27 : zB (-2545620) 2545620 ((N 3 (a + 1)) - (N 3 a)) := zB.w (zb_sub (jN_a3 hI (a + 1)) (jN_a3 hI a)) (by decide) (by decide)
      refine zr_isub hx hb d_M_needOf_62 ?_
      refine zr_i2l hx hb (zB.I b_27 (by decide) (by decide)) d_M_needOf_63 ?_
      refine lv_lstore (lv' := [(7, .long (zl ((N 3 (a + 1)) - (N 3 a)))), (5, .long (zl 0)), (4, .int (zi (a + 1))), (0, .ref (ad 0)), (1, .int (zi a)), (2, .int (zi v)), (3, .int (zi w))]) hx hb d_M_needOf_64 hl (by decide) rfl (fun ls hl => ?_)
      refine lv_ldc2 (v := zl 981) hx hb hown (hw _ m_332) d_M_needOf_66 ?_
      refine lv_aload_n hx hb d_M_needOf_69 rfl (lv_at hl 3 rfl) ?_
      refine va_get (D := (dC, dI)) (ci := 2) (v := .ref (ad 3)) (C := R_M) (T := T_M) (N := 17) hx hb hw i_M hown hK hP 0 rfl rfl 3 (by decide) (hw _ m_229) (fun _ h9 => h9) rfl d_M_needOf_70 ?_
      refine lv_iload hx hb d_M_needOf_73 (lv_at hl 2 rfl) ?_
      refine zr_iald hx hb hK hP 3 0 (cA := cI) (n := 60) (g := N 2) rfl rfl (i := a + 1) (by omega) (by omega) (by decide) d_M_needOf_75 ?_
      refine lv_aload_n hx hb d_M_needOf_76 rfl (lv_at hl 3 rfl) ?_
      refine va_get (D := (dC, dI)) (ci := 2) (v := .ref (ad 3)) (C := R_M) (T := T_M) (N := 17) hx hb hw i_M hown hK hP 0 rfl rfl 3 (by decide) (hw _ m_229) (fun _ h9 => h9) rfl d_M_needOf_77 ?_
      refine lv_iload_n hx hb d_M_needOf_80 rfl (lv_at hl 4 rfl) ?_
      refine zr_iald hx hb hK hP 3 0 (cA := cI) (n := 60) (g := N 2) rfl rfl (i := a) (by omega) (by omega) (by decide) d_M_needOf_81 ?_
      have b_28 : zB (-200000) 200000 ((N 2 (a + 1)) - (N 2 a)) := zB.w (zb_sub (jN_a2 hI (a + 1)) (jN_a2 hI a)) (by decide) (by decide)
      refine zr_isub hx hb d_M_needOf_82 ?_
      refine zr_i2l hx hb (zB.I b_28 (by decide) (by decide)) d_M_needOf_83 ?_
      have b_29 : zB (-196200000) 196200000 (981 * ((N 2 (a + 1)) - (N 2 a))) := zB.w (zb_mul (A := 981) (B := 200000) (zB.w (zb_c 981) (by decide) (by decide)) (zB.w b_28 (by decide) (by decide))) (by decide) (by decide)
      refine zr_lmul hx hb d_M_needOf_84 ?_
      refine lv_ldc2 (v := zl 10) hx hb hown (hw _ m_333) d_M_needOf_85 ?_
      refine lv_lload hx hb d_M_needOf_88 (lv_at hl 0 rfl) ?_
      have b_30 : zB (-25456200) 25456200 (10 * ((N 3 (a + 1)) - (N 3 a))) := zB.w (zb_mul (A := 10) (B := 2545620) (zB.w (zb_c 10) (by decide) (by decide)) (zB.w b_27 (by decide) (by decide))) (by decide) (by decide)
      refine zr_lmul hx hb d_M_needOf_90 ?_
      refine zr_ldiv hx hb (zB.L b_29 (by decide) (by decide)) (zB.L b_30 (by decide) (by decide)) (by omega) d_M_needOf_91 ?_
      have b_31 : zB (-196200000) 196200000 (Int.tdiv (981 * ((N 2 (a + 1)) - (N 2 a))) (10 * ((N 3 (a + 1)) - (N 3 a)))) := zB.w (zb_tdiv (A := 196200000) (b := (10 * ((N 3 (a + 1)) - (N 3 a)))) (zB.w b_29 (by decide) (by decide))) (by decide) (by decide)
      refine lv_lstore (lv' := [(5, .long (zl (Int.tdiv (981 * ((N 2 (a + 1)) - (N 2 a))) (10 * ((N 3 (a + 1)) - (N 3 a)))))), (7, .long (zl ((N 3 (a + 1)) - (N 3 a)))), (4, .int (zi (a + 1))), (0, .ref (ad 0)), (1, .int (zi a)), (2, .int (zi v)), (3, .int (zi w))]) hx hb d_M_needOf_92 hl (by decide) rfl (fun ls hl => ?_)
      refine lv_aload_n hx hb d_M_needOf_94 rfl (lv_at hl 3 rfl) ?_
      refine va_get (D := (dC, dI)) (ci := 2) (v := .int (zi (N 7 5))) (C := R_M) (T := T_M) (N := 17) hx hb hw i_M hown hK hP 0 rfl rfl 12 (by decide) (hw _ m_238) (fun _ h9 => h9) rfl d_M_needOf_95 ?_
      refine zr_i2l hx hb (zB.I (jN_s5 hI) (by decide) (by decide)) d_M_needOf_98 ?_
      refine lv_lload hx hb d_M_needOf_99 (lv_at hl 0 rfl) ?_
      have b_32 : zB (-196199950) 196201000 ((N 7 5) + (Int.tdiv (981 * ((N 2 (a + 1)) - (N 2 a))) (10 * ((N 3 (a + 1)) - (N 3 a))))) := zB.w (zb_add (jN_s5 hI) b_31) (by decide) (by decide)
      refine zr_ladd hx hb d_M_needOf_101 ?_
      refine lv_ldc2 (v := zl 20) hx hb hown (hw _ m_334) d_M_needOf_102 ?_
      refine zr_lcmp_ge (tgt := 115) hx hb (zB.L b_32 (by decide) (by decide)) (zB.L (zb_c 20) (by decide) (by decide)) d_M_needOf_105 d_M_needOf_106 (by decide) (fun c_33 => ?_) (fun c_33 => ?_)
      · replace hq := (if_neg c_33).symm.trans hq
        have r_34 : zB 20 196201000 ((N 7 5) + (Int.tdiv (981 * ((N 2 (a + 1)) - (N 2 a))) (10 * ((N 3 (a + 1)) - (N 3 a))))) := ⟨(Int.not_lt.mp c_33), b_32.2⟩
        refine lv_aload_n hx hb d_M_needOf_115 rfl (lv_at hl 3 rfl) ?_
        refine va_get (D := (dC, dI)) (ci := 2) (v := .int (zi (N 7 5))) (C := R_M) (T := T_M) (N := 17) hx hb hw i_M hown hK hP 0 rfl rfl 12 (by decide) (hw _ m_238) (fun _ h9 => h9) rfl d_M_needOf_116 ?_
        refine zr_i2l hx hb (zB.I (jN_s5 hI) (by decide) (by decide)) d_M_needOf_119 ?_
        refine lv_lload hx hb d_M_needOf_120 (lv_at hl 0 rfl) ?_
        refine zr_ladd hx hb d_M_needOf_122 ?_
        refine lv_lstore (lv' := [(7, .long (zl ((N 7 5) + (Int.tdiv (981 * ((N 2 (a + 1)) - (N 2 a))) (10 * ((N 3 (a + 1)) - (N 3 a))))))), (5, .long (zl (Int.tdiv (981 * ((N 2 (a + 1)) - (N 2 a))) (10 * ((N 3 (a + 1)) - (N 3 a)))))), (4, .int (zi (a + 1))), (0, .ref (ad 0)), (1, .int (zi a)), (2, .int (zi v)), (3, .int (zi w))]) hx hb d_M_needOf_123 hl (by decide) rfl (fun ls hl => ?_)
        refine lv_iload_n hx hb d_M_needOf_125 rfl (lv_at hl 6 rfl) ?_
        refine lv_aload_n hx hb d_M_needOf_126 rfl (lv_at hl 3 rfl) ?_
        refine va_get (D := (dC, dI)) (ci := 2) (v := .int (zi (N 7 4))) (C := R_M) (T := T_M) (N := 17) hx hb hw i_M hown hK hP 0 rfl rfl 11 (by decide) (hw _ m_237) (fun _ h9 => h9) rfl d_M_needOf_127 ?_
        have b_35 : zB 0 20000 (w * (N 7 4)) := zB.w (zb_mulq hb_w (jN_s4 hI) (by decide) (by decide)) (by decide) (by decide)
        refine zr_imul hx hb d_M_needOf_130 ?_
        refine lv_bipush (v := zi 10) hx hb d_M_needOf_131 (by decide) ?_
        have b_36 : zB 0 200000 ((w * (N 7 4)) * 10) := zB.w (zb_mulq b_35 (zb_c 10) (by decide) (by decide)) (by decide) (by decide)
        refine zr_imul hx hb d_M_needOf_133 ?_
        refine lv_bipush (v := zi 36) hx hb d_M_needOf_134 (by decide) ?_
        refine zr_idiv hx hb (zB.I b_36 (by decide) (by decide)) (zB.I (zb_c 36) (by decide) (by decide)) (Int.lt_of_lt_of_le (by decide) (zb_c 36).1) d_M_needOf_136 ?_
        have b_37 : zB 0 5555 (Int.tdiv ((w * (N 7 4)) * 10) 36) := zB.w (zb_tdivp (c := 36) b_36 (by decide) (by decide) (zb_c 36).1) (by decide) (by decide)
        refine lv_ldc2 (v := zl 100000) hx hb hown (hw _ m_261) d_M_needOf_137 ?_
        refine lv_iload_n hx hb d_M_needOf_140 rfl (lv_at hl 6 rfl) ?_
        refine zr_i2l hx hb (zB.I hb_w (by decide) (by decide)) d_M_needOf_141 ?_
        have b_38 : zB 0 20000000 (100000 * w) := zB.w (zb_mulq (zb_c 100000) hb_w (by decide) (by decide)) (by decide) (by decide)
        refine zr_lmul hx hb d_M_needOf_142 ?_
        refine lv_iload_n hx hb d_M_needOf_143 rfl (lv_at hl 6 rfl) ?_
        refine zr_i2l hx hb (zB.I hb_w (by decide) (by decide)) d_M_needOf_144 ?_
        have b_39 : zB 0 4000000000 ((100000 * w) * w) := zB.w (zb_mulq b_38 hb_w (by decide) (by decide)) (by decide) (by decide)
        refine zr_lmul hx hb d_M_needOf_145 ?_
        refine lv_ldc2 (v := zl 2592) hx hb hown (hw _ m_335) d_M_needOf_146 ?_
        refine lv_lload hx hb d_M_needOf_149 (lv_at hl 0 rfl) ?_
        have b_40 : zB 51840 508552992000 (2592 * ((N 7 5) + (Int.tdiv (981 * ((N 2 (a + 1)) - (N 2 a))) (10 * ((N 3 (a + 1)) - (N 3 a)))))) := zB.w (zb_mulq (zb_c 2592) r_34 (by decide) (by decide)) (by decide) (by decide)
        refine zr_lmul hx hb d_M_needOf_151 ?_
        refine zr_ldiv hx hb (zB.L b_39 (by decide) (by decide)) (zB.L b_40 (by decide) (by decide)) (Int.lt_of_lt_of_le (by decide) b_40.1) d_M_needOf_152 ?_
        have b_41 : zB 0 77160 (Int.tdiv ((100000 * w) * w) (2592 * ((N 7 5) + (Int.tdiv (981 * ((N 2 (a + 1)) - (N 2 a))) (10 * ((N 3 (a + 1)) - (N 3 a))))))) := zB.w (zb_tdivp (c := 51840) b_39 (by decide) (by decide) b_40.1) (by decide) (by decide)
        refine zr_l2i hx hb d_M_needOf_153 ?_
        have b_42 : zB 0 82715 ((Int.tdiv ((w * (N 7 4)) * 10) 36) + (Int.tdiv ((100000 * w) * w) (2592 * ((N 7 5) + (Int.tdiv (981 * ((N 2 (a + 1)) - (N 2 a))) (10 * ((N 3 (a + 1)) - (N 3 a)))))))) := zB.w (zb_add b_37 b_41) (by decide) (by decide)
        refine zr_iadd hx hb d_M_needOf_154 ?_
        exact ze_i hx hb hr hlocks hq d_M_needOf_155
      · replace hq := (if_pos c_33).symm.trans hq
        have r_43 : zB (-196199950) 19 ((N 7 5) + (Int.tdiv (981 * ((N 2 (a + 1)) - (N 2 a))) (10 * ((N 3 (a + 1)) - (N 3 a))))) := ⟨b_32.1, (Int.le_sub_one_of_lt c_33)⟩
        refine lv_ldc2 (v := zl 20) hx hb hown (hw _ m_334) d_M_needOf_109 ?_
        refine lv_goto (tgt := 123) hx hb d_M_needOf_112 (by decide) ?_
        refine lv_lstore (lv' := [(7, .long (zl 20)), (5, .long (zl (Int.tdiv (981 * ((N 2 (a + 1)) - (N 2 a))) (10 * ((N 3 (a + 1)) - (N 3 a)))))), (4, .int (zi (a + 1))), (0, .ref (ad 0)), (1, .int (zi a)), (2, .int (zi v)), (3, .int (zi w))]) hx hb d_M_needOf_123 hl (by decide) rfl (fun ls hl => ?_)
        refine lv_iload_n hx hb d_M_needOf_125 rfl (lv_at hl 6 rfl) ?_
        refine lv_aload_n hx hb d_M_needOf_126 rfl (lv_at hl 3 rfl) ?_
        refine va_get (D := (dC, dI)) (ci := 2) (v := .int (zi (N 7 4))) (C := R_M) (T := T_M) (N := 17) hx hb hw i_M hown hK hP 0 rfl rfl 11 (by decide) (hw _ m_237) (fun _ h9 => h9) rfl d_M_needOf_127 ?_
        have b_44 : zB 0 20000 (w * (N 7 4)) := zB.w (zb_mulq hb_w (jN_s4 hI) (by decide) (by decide)) (by decide) (by decide)
        refine zr_imul hx hb d_M_needOf_130 ?_
        refine lv_bipush (v := zi 10) hx hb d_M_needOf_131 (by decide) ?_
        have b_45 : zB 0 200000 ((w * (N 7 4)) * 10) := zB.w (zb_mulq b_44 (zb_c 10) (by decide) (by decide)) (by decide) (by decide)
        refine zr_imul hx hb d_M_needOf_133 ?_
        refine lv_bipush (v := zi 36) hx hb d_M_needOf_134 (by decide) ?_
        refine zr_idiv hx hb (zB.I b_45 (by decide) (by decide)) (zB.I (zb_c 36) (by decide) (by decide)) (Int.lt_of_lt_of_le (by decide) (zb_c 36).1) d_M_needOf_136 ?_
        have b_46 : zB 0 5555 (Int.tdiv ((w * (N 7 4)) * 10) 36) := zB.w (zb_tdivp (c := 36) b_45 (by decide) (by decide) (zb_c 36).1) (by decide) (by decide)
        refine lv_ldc2 (v := zl 100000) hx hb hown (hw _ m_261) d_M_needOf_137 ?_
        refine lv_iload_n hx hb d_M_needOf_140 rfl (lv_at hl 6 rfl) ?_
        refine zr_i2l hx hb (zB.I hb_w (by decide) (by decide)) d_M_needOf_141 ?_
        have b_47 : zB 0 20000000 (100000 * w) := zB.w (zb_mulq (zb_c 100000) hb_w (by decide) (by decide)) (by decide) (by decide)
        refine zr_lmul hx hb d_M_needOf_142 ?_
        refine lv_iload_n hx hb d_M_needOf_143 rfl (lv_at hl 6 rfl) ?_
        refine zr_i2l hx hb (zB.I hb_w (by decide) (by decide)) d_M_needOf_144 ?_
        have b_48 : zB 0 4000000000 ((100000 * w) * w) := zB.w (zb_mulq b_47 hb_w (by decide) (by decide)) (by decide) (by decide)
        refine zr_lmul hx hb d_M_needOf_145 ?_
        refine lv_ldc2 (v := zl 2592) hx hb hown (hw _ m_335) d_M_needOf_146 ?_
        refine lv_lload hx hb d_M_needOf_149 (lv_at hl 0 rfl) ?_
        have b_49 : zB 51840 51840 (2592 * 20) := zB.w (zb_mulq (zb_c 2592) (zb_c 20) (by decide) (by decide)) (by decide) (by decide)
        refine zr_lmul hx hb d_M_needOf_151 ?_
        refine zr_ldiv hx hb (zB.L b_48 (by decide) (by decide)) (zB.L b_49 (by decide) (by decide)) (Int.lt_of_lt_of_le (by decide) b_49.1) d_M_needOf_152 ?_
        have b_50 : zB 0 77160 (Int.tdiv ((100000 * w) * w) (2592 * 20)) := zB.w (zb_tdivp (c := 51840) b_48 (by decide) (by decide) b_49.1) (by decide) (by decide)
        refine zr_l2i hx hb d_M_needOf_153 ?_
        have b_51 : zB 0 82715 ((Int.tdiv ((w * (N 7 4)) * 10) 36) + (Int.tdiv ((100000 * w) * w) (2592 * 20))) := zB.w (zb_add b_46 b_50) (by decide) (by decide)
        refine zr_iadd hx hb d_M_needOf_154 ?_
        exact ze_i hx hb hr hlocks hq d_M_needOf_155
  · replace hq := (if_neg c_1).symm.trans hq
    have r_52 : zB 1 1 v := ⟨(by have := hb_v.1; omega), hb_v.2⟩
    refine lv_iload_n hx hb d_M_needOf_4 rfl (lv_at hl 1 rfl) ?_
    refine lv_iconst (v := zi 1) hx hb d_M_needOf_5 rfl ?_
    have b_53 : zB (-1) 58 (a - 1) := zB.w (zb_sub hb_a (zb_c 1)) (by decide) (by decide)
    refine zr_isub hx hb d_M_needOf_6 ?_
    refine lv_goto (tgt := 13) hx hb d_M_needOf_7 (by decide) ?_
    refine lv_istore (lv' := [(4, .int (zi (a - 1))), (0, .ref (ad 0)), (1, .int (zi a)), (2, .int (zi v)), (3, .int (zi w))]) hx hb d_M_needOf_13 hl (by decide) rfl (fun ls hl => ?_)
    refine lv_lconst (v := zl 0) hx hb d_M_needOf_15 (by decide) ?_
    refine lv_lstore (lv' := [(5, .long (zl 0)), (4, .int (zi (a - 1))), (0, .ref (ad 0)), (1, .int (zi a)), (2, .int (zi v)), (3, .int (zi w))]) hx hb d_M_needOf_16 hl (by decide) rfl (fun ls hl => ?_)
    refine lv_aload_n hx hb d_M_needOf_18 rfl (lv_at hl 2 rfl) ?_
    refine lv_iload hx hb d_M_needOf_19 (lv_at hl 1 rfl) ?_
    refine zc_n (va_runV (As := [.int (zi (a - 1))]) (rest := []) ⟨hx, hb, hml, hown, hts⟩ (k_M_isStation l dC dI ad cI N k0 k1 k2 k3 hI (a - 1) (zB.w b_53 (by decide) (by decide)) ) (zcV 1 hts m_273 m_3 m_271 m_272 m_392 rfl rfl q_M_isStation ⟨Nat.le_of_ble_eq_true rfl, Nat.le_of_ble_eq_true rfl⟩) (zpM0 hP hK [.int (zi (a - 1))]) rfl rfl hl.1 rfl (lv_room (Nat.le_of_ble_eq_true rfl)) d_M_needOf_21 ⟨Nat.zero_le _, Nat.zero_le _⟩) ?_
    refine zr_if_eq (tgt := 94) hx hb (zB.I (bb_M_isStation N (a - 1)) (by decide) (by decide)) d_M_needOf_24 (by decide) (fun c_54 => ?_) (fun c_54 => ?_)
    · replace hq := (if_pos c_54).symm.trans hq
      have r_55 : zB 0 0 (f_M_isStation N (a - 1)) := ⟨(Int.le_of_eq c_54.symm), (Int.le_of_eq c_54)⟩
      refine lv_aload_n hx hb d_M_needOf_94 rfl (lv_at hl 2 rfl) ?_
      refine va_get (D := (dC, dI)) (ci := 2) (v := .int (zi (N 7 5))) (C := R_M) (T := T_M) (N := 17) hx hb hw i_M hown hK hP 0 rfl rfl 12 (by decide) (hw _ m_238) (fun _ h9 => h9) rfl d_M_needOf_95 ?_
      refine zr_i2l hx hb (zB.I (jN_s5 hI) (by decide) (by decide)) d_M_needOf_98 ?_
      refine lv_lload hx hb d_M_needOf_99 (lv_at hl 0 rfl) ?_
      have b_56 : zB 50 1000 ((N 7 5) + 0) := zB.w (zb_add (jN_s5 hI) (zb_c 0)) (by decide) (by decide)
      refine zr_ladd hx hb d_M_needOf_101 ?_
      refine lv_ldc2 (v := zl 20) hx hb hown (hw _ m_334) d_M_needOf_102 ?_
      refine zr_lcmp_ge (tgt := 115) hx hb (zB.L b_56 (by decide) (by decide)) (zB.L (zb_c 20) (by decide) (by decide)) d_M_needOf_105 d_M_needOf_106 (by decide) (fun c_57 => ?_) (fun c_57 => ?_)
      · replace hq := (if_neg c_57).symm.trans hq
        refine lv_aload_n hx hb d_M_needOf_115 rfl (lv_at hl 2 rfl) ?_
        refine va_get (D := (dC, dI)) (ci := 2) (v := .int (zi (N 7 5))) (C := R_M) (T := T_M) (N := 17) hx hb hw i_M hown hK hP 0 rfl rfl 12 (by decide) (hw _ m_238) (fun _ h9 => h9) rfl d_M_needOf_116 ?_
        refine zr_i2l hx hb (zB.I (jN_s5 hI) (by decide) (by decide)) d_M_needOf_119 ?_
        refine lv_lload hx hb d_M_needOf_120 (lv_at hl 0 rfl) ?_
        refine zr_ladd hx hb d_M_needOf_122 ?_
        refine lv_lstore (lv' := [(7, .long (zl ((N 7 5) + 0))), (5, .long (zl 0)), (4, .int (zi (a - 1))), (0, .ref (ad 0)), (1, .int (zi a)), (2, .int (zi v)), (3, .int (zi w))]) hx hb d_M_needOf_123 hl (by decide) rfl (fun ls hl => ?_)
        refine lv_iload_n hx hb d_M_needOf_125 rfl (lv_at hl 6 rfl) ?_
        refine lv_aload_n hx hb d_M_needOf_126 rfl (lv_at hl 3 rfl) ?_
        refine va_get (D := (dC, dI)) (ci := 2) (v := .int (zi (N 7 4))) (C := R_M) (T := T_M) (N := 17) hx hb hw i_M hown hK hP 0 rfl rfl 11 (by decide) (hw _ m_237) (fun _ h9 => h9) rfl d_M_needOf_127 ?_
        have b_58 : zB 0 20000 (w * (N 7 4)) := zB.w (zb_mulq hb_w (jN_s4 hI) (by decide) (by decide)) (by decide) (by decide)
        refine zr_imul hx hb d_M_needOf_130 ?_
        refine lv_bipush (v := zi 10) hx hb d_M_needOf_131 (by decide) ?_
        have b_59 : zB 0 200000 ((w * (N 7 4)) * 10) := zB.w (zb_mulq b_58 (zb_c 10) (by decide) (by decide)) (by decide) (by decide)
        refine zr_imul hx hb d_M_needOf_133 ?_
        refine lv_bipush (v := zi 36) hx hb d_M_needOf_134 (by decide) ?_
        refine zr_idiv hx hb (zB.I b_59 (by decide) (by decide)) (zB.I (zb_c 36) (by decide) (by decide)) (Int.lt_of_lt_of_le (by decide) (zb_c 36).1) d_M_needOf_136 ?_
        have b_60 : zB 0 5555 (Int.tdiv ((w * (N 7 4)) * 10) 36) := zB.w (zb_tdivp (c := 36) b_59 (by decide) (by decide) (zb_c 36).1) (by decide) (by decide)
        refine lv_ldc2 (v := zl 100000) hx hb hown (hw _ m_261) d_M_needOf_137 ?_
        refine lv_iload_n hx hb d_M_needOf_140 rfl (lv_at hl 6 rfl) ?_
        refine zr_i2l hx hb (zB.I hb_w (by decide) (by decide)) d_M_needOf_141 ?_
        have b_61 : zB 0 20000000 (100000 * w) := zB.w (zb_mulq (zb_c 100000) hb_w (by decide) (by decide)) (by decide) (by decide)
        refine zr_lmul hx hb d_M_needOf_142 ?_
        refine lv_iload_n hx hb d_M_needOf_143 rfl (lv_at hl 6 rfl) ?_
        refine zr_i2l hx hb (zB.I hb_w (by decide) (by decide)) d_M_needOf_144 ?_
        have b_62 : zB 0 4000000000 ((100000 * w) * w) := zB.w (zb_mulq b_61 hb_w (by decide) (by decide)) (by decide) (by decide)
        refine zr_lmul hx hb d_M_needOf_145 ?_
        refine lv_ldc2 (v := zl 2592) hx hb hown (hw _ m_335) d_M_needOf_146 ?_
        refine lv_lload hx hb d_M_needOf_149 (lv_at hl 0 rfl) ?_
        have b_63 : zB 129600 2592000 (2592 * ((N 7 5) + 0)) := zB.w (zb_mulq (zb_c 2592) b_56 (by decide) (by decide)) (by decide) (by decide)
        refine zr_lmul hx hb d_M_needOf_151 ?_
        refine zr_ldiv hx hb (zB.L b_62 (by decide) (by decide)) (zB.L b_63 (by decide) (by decide)) (Int.lt_of_lt_of_le (by decide) b_63.1) d_M_needOf_152 ?_
        have b_64 : zB 0 30864 (Int.tdiv ((100000 * w) * w) (2592 * ((N 7 5) + 0))) := zB.w (zb_tdivp (c := 129600) b_62 (by decide) (by decide) b_63.1) (by decide) (by decide)
        refine zr_l2i hx hb d_M_needOf_153 ?_
        have b_65 : zB 0 36419 ((Int.tdiv ((w * (N 7 4)) * 10) 36) + (Int.tdiv ((100000 * w) * w) (2592 * ((N 7 5) + 0)))) := zB.w (zb_add b_60 b_64) (by decide) (by decide)
        refine zr_iadd hx hb d_M_needOf_154 ?_
        exact ze_i hx hb hr hlocks hq d_M_needOf_155
      · replace hq := (if_pos c_57).symm.trans hq
        have r_66 : zB 50 19 ((N 7 5) + 0) := ⟨b_56.1, (Int.le_sub_one_of_lt c_57)⟩
        refine lv_ldc2 (v := zl 20) hx hb hown (hw _ m_334) d_M_needOf_109 ?_
        refine lv_goto (tgt := 123) hx hb d_M_needOf_112 (by decide) ?_
        refine lv_lstore (lv' := [(7, .long (zl 20)), (5, .long (zl 0)), (4, .int (zi (a - 1))), (0, .ref (ad 0)), (1, .int (zi a)), (2, .int (zi v)), (3, .int (zi w))]) hx hb d_M_needOf_123 hl (by decide) rfl (fun ls hl => ?_)
        refine lv_iload_n hx hb d_M_needOf_125 rfl (lv_at hl 6 rfl) ?_
        refine lv_aload_n hx hb d_M_needOf_126 rfl (lv_at hl 3 rfl) ?_
        refine va_get (D := (dC, dI)) (ci := 2) (v := .int (zi (N 7 4))) (C := R_M) (T := T_M) (N := 17) hx hb hw i_M hown hK hP 0 rfl rfl 11 (by decide) (hw _ m_237) (fun _ h9 => h9) rfl d_M_needOf_127 ?_
        have b_67 : zB 0 20000 (w * (N 7 4)) := zB.w (zb_mulq hb_w (jN_s4 hI) (by decide) (by decide)) (by decide) (by decide)
        refine zr_imul hx hb d_M_needOf_130 ?_
        refine lv_bipush (v := zi 10) hx hb d_M_needOf_131 (by decide) ?_
        have b_68 : zB 0 200000 ((w * (N 7 4)) * 10) := zB.w (zb_mulq b_67 (zb_c 10) (by decide) (by decide)) (by decide) (by decide)
        refine zr_imul hx hb d_M_needOf_133 ?_
        refine lv_bipush (v := zi 36) hx hb d_M_needOf_134 (by decide) ?_
        refine zr_idiv hx hb (zB.I b_68 (by decide) (by decide)) (zB.I (zb_c 36) (by decide) (by decide)) (Int.lt_of_lt_of_le (by decide) (zb_c 36).1) d_M_needOf_136 ?_
        have b_69 : zB 0 5555 (Int.tdiv ((w * (N 7 4)) * 10) 36) := zB.w (zb_tdivp (c := 36) b_68 (by decide) (by decide) (zb_c 36).1) (by decide) (by decide)
        refine lv_ldc2 (v := zl 100000) hx hb hown (hw _ m_261) d_M_needOf_137 ?_
        refine lv_iload_n hx hb d_M_needOf_140 rfl (lv_at hl 6 rfl) ?_
        refine zr_i2l hx hb (zB.I hb_w (by decide) (by decide)) d_M_needOf_141 ?_
        have b_70 : zB 0 20000000 (100000 * w) := zB.w (zb_mulq (zb_c 100000) hb_w (by decide) (by decide)) (by decide) (by decide)
        refine zr_lmul hx hb d_M_needOf_142 ?_
        refine lv_iload_n hx hb d_M_needOf_143 rfl (lv_at hl 6 rfl) ?_
        refine zr_i2l hx hb (zB.I hb_w (by decide) (by decide)) d_M_needOf_144 ?_
        have b_71 : zB 0 4000000000 ((100000 * w) * w) := zB.w (zb_mulq b_70 hb_w (by decide) (by decide)) (by decide) (by decide)
        refine zr_lmul hx hb d_M_needOf_145 ?_
        refine lv_ldc2 (v := zl 2592) hx hb hown (hw _ m_335) d_M_needOf_146 ?_
        refine lv_lload hx hb d_M_needOf_149 (lv_at hl 0 rfl) ?_
        have b_72 : zB 51840 51840 (2592 * 20) := zB.w (zb_mulq (zb_c 2592) (zb_c 20) (by decide) (by decide)) (by decide) (by decide)
        refine zr_lmul hx hb d_M_needOf_151 ?_
        refine zr_ldiv hx hb (zB.L b_71 (by decide) (by decide)) (zB.L b_72 (by decide) (by decide)) (Int.lt_of_lt_of_le (by decide) b_72.1) d_M_needOf_152 ?_
        have b_73 : zB 0 77160 (Int.tdiv ((100000 * w) * w) (2592 * 20)) := zB.w (zb_tdivp (c := 51840) b_71 (by decide) (by decide) b_72.1) (by decide) (by decide)
        refine zr_l2i hx hb d_M_needOf_153 ?_
        have b_74 : zB 0 82715 ((Int.tdiv ((w * (N 7 4)) * 10) 36) + (Int.tdiv ((100000 * w) * w) (2592 * 20))) := zB.w (zb_add b_69 b_73) (by decide) (by decide)
        refine zr_iadd hx hb d_M_needOf_154 ?_
        exact ze_i hx hb hr hlocks hq d_M_needOf_155
    · replace hq := (if_neg c_54).symm.trans hq
      have r_75 : zB 1 1 (f_M_isStation N (a - 1)) := ⟨(by have := (bb_M_isStation N (a - 1)).1; omega), (bb_M_isStation N (a - 1)).2⟩
      have g_76 := gf_M_isStation hI c_54
      obtain ⟨g_76l, g_76h⟩ := id g_76.1
      have g_76n := g_76.2
      have hm := jN_m hI (a - 1) a (by omega) (by omega) (by omega)
      refine lv_iload_n hx hb d_M_needOf_27 rfl (lv_at hl 4 rfl) ?_
      refine zr_if_eq (tgt := 49) hx hb (zB.I r_52 (by decide) (by decide)) d_M_needOf_28 (by decide) (fun c => absurd c c_1) (fun _ => ?_)
      refine lv_aload_n hx hb d_M_needOf_31 rfl (lv_at hl 2 rfl) ?_
      refine va_get (D := (dC, dI)) (ci := 2) (v := .ref (ad 4)) (C := R_M) (T := T_M) (N := 17) hx hb hw i_M hown hK hP 0 rfl rfl 4 (by decide) (hw _ m_230) (fun _ h9 => h9) rfl d_M_needOf_32 ?_
      refine lv_iload_n hx hb d_M_needOf_35 rfl (lv_at hl 3 rfl) ?_
      refine zr_iald hx hb hK hP 4 0 (cA := cI) (n := 60) (g := N 3) rfl rfl (i := a) (by omega) (by omega) (by decide) d_M_needOf_36 ?_
      refine lv_aload_n hx hb d_M_needOf_37 rfl (lv_at hl 2 rfl) ?_
      refine va_get (D := (dC, dI)) (ci := 2) (v := .ref (ad 4)) (C := R_M) (T := T_M) (N := 17) hx hb hw i_M hown hK hP 0 rfl rfl 4 (by decide) (hw _ m_230) (fun _ h9 => h9) rfl d_M_needOf_38 ?_
      refine lv_iload hx hb d_M_needOf_41 (lv_at hl 1 rfl) ?_
      refine zr_iald hx hb hK hP 4 0 (cA := cI) (n := 60) (g := N 3) rfl rfl (i := a - 1) (by omega) (by omega) (by decide) d_M_needOf_43 ?_
      have b_77 : zB (-2545620) 2545620 ((N 3 a) - (N 3 (a - 1))) := zB.w (zb_sub (jN_a3 hI a) (jN_a3 hI (a - 1))) (by decide) (by decide)
      refine zr_isub hx hb d_M_needOf_44 ?_
      refine zr_i2l hx hb (zB.I b_77 (by decide) (by decide)) d_M_needOf_45 ?_
      refine lv_goto (tgt := 64) hx hb d_M_needOf_46 (by decide) ?_
      refine lv_lstore (lv' := [(7, .long (zl ((N 3 a) - (N 3 (a - 1))))), (5, .long (zl 0)), (4, .int (zi (a - 1))), (0, .ref (ad 0)), (1, .int (zi a)), (2, .int (zi v)), (3, .int (zi w))]) hx hb d_M_needOf_64 hl (by decide) rfl (fun ls hl => ?_)
      refine lv_ldc2 (v := zl 981) hx hb hown (hw _ m_332) d_M_needOf_66 ?_
      refine lv_aload_n hx hb d_M_needOf_69 rfl (lv_at hl 3 rfl) ?_
      refine va_get (D := (dC, dI)) (ci := 2) (v := .ref (ad 3)) (C := R_M) (T := T_M) (N := 17) hx hb hw i_M hown hK hP 0 rfl rfl 3 (by decide) (hw _ m_229) (fun _ h9 => h9) rfl d_M_needOf_70 ?_
      refine lv_iload hx hb d_M_needOf_73 (lv_at hl 2 rfl) ?_
      refine zr_iald hx hb hK hP 3 0 (cA := cI) (n := 60) (g := N 2) rfl rfl (i := a - 1) (by omega) (by omega) (by decide) d_M_needOf_75 ?_
      refine lv_aload_n hx hb d_M_needOf_76 rfl (lv_at hl 3 rfl) ?_
      refine va_get (D := (dC, dI)) (ci := 2) (v := .ref (ad 3)) (C := R_M) (T := T_M) (N := 17) hx hb hw i_M hown hK hP 0 rfl rfl 3 (by decide) (hw _ m_229) (fun _ h9 => h9) rfl d_M_needOf_77 ?_
      refine lv_iload_n hx hb d_M_needOf_80 rfl (lv_at hl 4 rfl) ?_
      refine zr_iald hx hb hK hP 3 0 (cA := cI) (n := 60) (g := N 2) rfl rfl (i := a) (by omega) (by omega) (by decide) d_M_needOf_81 ?_
      have b_78 : zB (-200000) 200000 ((N 2 (a - 1)) - (N 2 a)) := zB.w (zb_sub (jN_a2 hI (a - 1)) (jN_a2 hI a)) (by decide) (by decide)
      refine zr_isub hx hb d_M_needOf_82 ?_
      refine zr_i2l hx hb (zB.I b_78 (by decide) (by decide)) d_M_needOf_83 ?_
      have b_79 : zB (-196200000) 196200000 (981 * ((N 2 (a - 1)) - (N 2 a))) := zB.w (zb_mul (A := 981) (B := 200000) (zB.w (zb_c 981) (by decide) (by decide)) (zB.w b_78 (by decide) (by decide))) (by decide) (by decide)
      refine zr_lmul hx hb d_M_needOf_84 ?_
      refine lv_ldc2 (v := zl 10) hx hb hown (hw _ m_333) d_M_needOf_85 ?_
      refine lv_lload hx hb d_M_needOf_88 (lv_at hl 0 rfl) ?_
      have b_80 : zB (-25456200) 25456200 (10 * ((N 3 a) - (N 3 (a - 1)))) := zB.w (zb_mul (A := 10) (B := 2545620) (zB.w (zb_c 10) (by decide) (by decide)) (zB.w b_77 (by decide) (by decide))) (by decide) (by decide)
      refine zr_lmul hx hb d_M_needOf_90 ?_
      refine zr_ldiv hx hb (zB.L b_79 (by decide) (by decide)) (zB.L b_80 (by decide) (by decide)) (by omega) d_M_needOf_91 ?_
      have b_81 : zB (-196200000) 196200000 (Int.tdiv (981 * ((N 2 (a - 1)) - (N 2 a))) (10 * ((N 3 a) - (N 3 (a - 1))))) := zB.w (zb_tdiv (A := 196200000) (b := (10 * ((N 3 a) - (N 3 (a - 1))))) (zB.w b_79 (by decide) (by decide))) (by decide) (by decide)
      refine lv_lstore (lv' := [(5, .long (zl (Int.tdiv (981 * ((N 2 (a - 1)) - (N 2 a))) (10 * ((N 3 a) - (N 3 (a - 1))))))), (7, .long (zl ((N 3 a) - (N 3 (a - 1))))), (4, .int (zi (a - 1))), (0, .ref (ad 0)), (1, .int (zi a)), (2, .int (zi v)), (3, .int (zi w))]) hx hb d_M_needOf_92 hl (by decide) rfl (fun ls hl => ?_)
      refine lv_aload_n hx hb d_M_needOf_94 rfl (lv_at hl 3 rfl) ?_
      refine va_get (D := (dC, dI)) (ci := 2) (v := .int (zi (N 7 5))) (C := R_M) (T := T_M) (N := 17) hx hb hw i_M hown hK hP 0 rfl rfl 12 (by decide) (hw _ m_238) (fun _ h9 => h9) rfl d_M_needOf_95 ?_
      refine zr_i2l hx hb (zB.I (jN_s5 hI) (by decide) (by decide)) d_M_needOf_98 ?_
      refine lv_lload hx hb d_M_needOf_99 (lv_at hl 0 rfl) ?_
      have b_82 : zB (-196199950) 196201000 ((N 7 5) + (Int.tdiv (981 * ((N 2 (a - 1)) - (N 2 a))) (10 * ((N 3 a) - (N 3 (a - 1)))))) := zB.w (zb_add (jN_s5 hI) b_81) (by decide) (by decide)
      refine zr_ladd hx hb d_M_needOf_101 ?_
      refine lv_ldc2 (v := zl 20) hx hb hown (hw _ m_334) d_M_needOf_102 ?_
      refine zr_lcmp_ge (tgt := 115) hx hb (zB.L b_82 (by decide) (by decide)) (zB.L (zb_c 20) (by decide) (by decide)) d_M_needOf_105 d_M_needOf_106 (by decide) (fun c_83 => ?_) (fun c_83 => ?_)
      · replace hq := (if_neg c_83).symm.trans hq
        have r_84 : zB 20 196201000 ((N 7 5) + (Int.tdiv (981 * ((N 2 (a - 1)) - (N 2 a))) (10 * ((N 3 a) - (N 3 (a - 1)))))) := ⟨(Int.not_lt.mp c_83), b_82.2⟩
        refine lv_aload_n hx hb d_M_needOf_115 rfl (lv_at hl 3 rfl) ?_
        refine va_get (D := (dC, dI)) (ci := 2) (v := .int (zi (N 7 5))) (C := R_M) (T := T_M) (N := 17) hx hb hw i_M hown hK hP 0 rfl rfl 12 (by decide) (hw _ m_238) (fun _ h9 => h9) rfl d_M_needOf_116 ?_
        refine zr_i2l hx hb (zB.I (jN_s5 hI) (by decide) (by decide)) d_M_needOf_119 ?_
        refine lv_lload hx hb d_M_needOf_120 (lv_at hl 0 rfl) ?_
        refine zr_ladd hx hb d_M_needOf_122 ?_
        refine lv_lstore (lv' := [(7, .long (zl ((N 7 5) + (Int.tdiv (981 * ((N 2 (a - 1)) - (N 2 a))) (10 * ((N 3 a) - (N 3 (a - 1)))))))), (5, .long (zl (Int.tdiv (981 * ((N 2 (a - 1)) - (N 2 a))) (10 * ((N 3 a) - (N 3 (a - 1))))))), (4, .int (zi (a - 1))), (0, .ref (ad 0)), (1, .int (zi a)), (2, .int (zi v)), (3, .int (zi w))]) hx hb d_M_needOf_123 hl (by decide) rfl (fun ls hl => ?_)
        refine lv_iload_n hx hb d_M_needOf_125 rfl (lv_at hl 6 rfl) ?_
        refine lv_aload_n hx hb d_M_needOf_126 rfl (lv_at hl 3 rfl) ?_
        refine va_get (D := (dC, dI)) (ci := 2) (v := .int (zi (N 7 4))) (C := R_M) (T := T_M) (N := 17) hx hb hw i_M hown hK hP 0 rfl rfl 11 (by decide) (hw _ m_237) (fun _ h9 => h9) rfl d_M_needOf_127 ?_
        have b_85 : zB 0 20000 (w * (N 7 4)) := zB.w (zb_mulq hb_w (jN_s4 hI) (by decide) (by decide)) (by decide) (by decide)
        refine zr_imul hx hb d_M_needOf_130 ?_
        refine lv_bipush (v := zi 10) hx hb d_M_needOf_131 (by decide) ?_
        have b_86 : zB 0 200000 ((w * (N 7 4)) * 10) := zB.w (zb_mulq b_85 (zb_c 10) (by decide) (by decide)) (by decide) (by decide)
        refine zr_imul hx hb d_M_needOf_133 ?_
        refine lv_bipush (v := zi 36) hx hb d_M_needOf_134 (by decide) ?_
        refine zr_idiv hx hb (zB.I b_86 (by decide) (by decide)) (zB.I (zb_c 36) (by decide) (by decide)) (Int.lt_of_lt_of_le (by decide) (zb_c 36).1) d_M_needOf_136 ?_
        have b_87 : zB 0 5555 (Int.tdiv ((w * (N 7 4)) * 10) 36) := zB.w (zb_tdivp (c := 36) b_86 (by decide) (by decide) (zb_c 36).1) (by decide) (by decide)
        refine lv_ldc2 (v := zl 100000) hx hb hown (hw _ m_261) d_M_needOf_137 ?_
        refine lv_iload_n hx hb d_M_needOf_140 rfl (lv_at hl 6 rfl) ?_
        refine zr_i2l hx hb (zB.I hb_w (by decide) (by decide)) d_M_needOf_141 ?_
        have b_88 : zB 0 20000000 (100000 * w) := zB.w (zb_mulq (zb_c 100000) hb_w (by decide) (by decide)) (by decide) (by decide)
        refine zr_lmul hx hb d_M_needOf_142 ?_
        refine lv_iload_n hx hb d_M_needOf_143 rfl (lv_at hl 6 rfl) ?_
        refine zr_i2l hx hb (zB.I hb_w (by decide) (by decide)) d_M_needOf_144 ?_
        have b_89 : zB 0 4000000000 ((100000 * w) * w) := zB.w (zb_mulq b_88 hb_w (by decide) (by decide)) (by decide) (by decide)
        refine zr_lmul hx hb d_M_needOf_145 ?_
        refine lv_ldc2 (v := zl 2592) hx hb hown (hw _ m_335) d_M_needOf_146 ?_
        refine lv_lload hx hb d_M_needOf_149 (lv_at hl 0 rfl) ?_
        have b_90 : zB 51840 508552992000 (2592 * ((N 7 5) + (Int.tdiv (981 * ((N 2 (a - 1)) - (N 2 a))) (10 * ((N 3 a) - (N 3 (a - 1))))))) := zB.w (zb_mulq (zb_c 2592) r_84 (by decide) (by decide)) (by decide) (by decide)
        refine zr_lmul hx hb d_M_needOf_151 ?_
        refine zr_ldiv hx hb (zB.L b_89 (by decide) (by decide)) (zB.L b_90 (by decide) (by decide)) (Int.lt_of_lt_of_le (by decide) b_90.1) d_M_needOf_152 ?_
        have b_91 : zB 0 77160 (Int.tdiv ((100000 * w) * w) (2592 * ((N 7 5) + (Int.tdiv (981 * ((N 2 (a - 1)) - (N 2 a))) (10 * ((N 3 a) - (N 3 (a - 1)))))))) := zB.w (zb_tdivp (c := 51840) b_89 (by decide) (by decide) b_90.1) (by decide) (by decide)
        refine zr_l2i hx hb d_M_needOf_153 ?_
        have b_92 : zB 0 82715 ((Int.tdiv ((w * (N 7 4)) * 10) 36) + (Int.tdiv ((100000 * w) * w) (2592 * ((N 7 5) + (Int.tdiv (981 * ((N 2 (a - 1)) - (N 2 a))) (10 * ((N 3 a) - (N 3 (a - 1))))))))) := zB.w (zb_add b_87 b_91) (by decide) (by decide)
        refine zr_iadd hx hb d_M_needOf_154 ?_
        exact ze_i hx hb hr hlocks hq d_M_needOf_155
      · replace hq := (if_pos c_83).symm.trans hq
        have r_93 : zB (-196199950) 19 ((N 7 5) + (Int.tdiv (981 * ((N 2 (a - 1)) - (N 2 a))) (10 * ((N 3 a) - (N 3 (a - 1)))))) := ⟨b_82.1, (Int.le_sub_one_of_lt c_83)⟩
        refine lv_ldc2 (v := zl 20) hx hb hown (hw _ m_334) d_M_needOf_109 ?_
        refine lv_goto (tgt := 123) hx hb d_M_needOf_112 (by decide) ?_
        refine lv_lstore (lv' := [(7, .long (zl 20)), (5, .long (zl (Int.tdiv (981 * ((N 2 (a - 1)) - (N 2 a))) (10 * ((N 3 a) - (N 3 (a - 1))))))), (4, .int (zi (a - 1))), (0, .ref (ad 0)), (1, .int (zi a)), (2, .int (zi v)), (3, .int (zi w))]) hx hb d_M_needOf_123 hl (by decide) rfl (fun ls hl => ?_)
        refine lv_iload_n hx hb d_M_needOf_125 rfl (lv_at hl 6 rfl) ?_
        refine lv_aload_n hx hb d_M_needOf_126 rfl (lv_at hl 3 rfl) ?_
        refine va_get (D := (dC, dI)) (ci := 2) (v := .int (zi (N 7 4))) (C := R_M) (T := T_M) (N := 17) hx hb hw i_M hown hK hP 0 rfl rfl 11 (by decide) (hw _ m_237) (fun _ h9 => h9) rfl d_M_needOf_127 ?_
        have b_94 : zB 0 20000 (w * (N 7 4)) := zB.w (zb_mulq hb_w (jN_s4 hI) (by decide) (by decide)) (by decide) (by decide)
        refine zr_imul hx hb d_M_needOf_130 ?_
        refine lv_bipush (v := zi 10) hx hb d_M_needOf_131 (by decide) ?_
        have b_95 : zB 0 200000 ((w * (N 7 4)) * 10) := zB.w (zb_mulq b_94 (zb_c 10) (by decide) (by decide)) (by decide) (by decide)
        refine zr_imul hx hb d_M_needOf_133 ?_
        refine lv_bipush (v := zi 36) hx hb d_M_needOf_134 (by decide) ?_
        refine zr_idiv hx hb (zB.I b_95 (by decide) (by decide)) (zB.I (zb_c 36) (by decide) (by decide)) (Int.lt_of_lt_of_le (by decide) (zb_c 36).1) d_M_needOf_136 ?_
        have b_96 : zB 0 5555 (Int.tdiv ((w * (N 7 4)) * 10) 36) := zB.w (zb_tdivp (c := 36) b_95 (by decide) (by decide) (zb_c 36).1) (by decide) (by decide)
        refine lv_ldc2 (v := zl 100000) hx hb hown (hw _ m_261) d_M_needOf_137 ?_
        refine lv_iload_n hx hb d_M_needOf_140 rfl (lv_at hl 6 rfl) ?_
        refine zr_i2l hx hb (zB.I hb_w (by decide) (by decide)) d_M_needOf_141 ?_
        have b_97 : zB 0 20000000 (100000 * w) := zB.w (zb_mulq (zb_c 100000) hb_w (by decide) (by decide)) (by decide) (by decide)
        refine zr_lmul hx hb d_M_needOf_142 ?_
        refine lv_iload_n hx hb d_M_needOf_143 rfl (lv_at hl 6 rfl) ?_
        refine zr_i2l hx hb (zB.I hb_w (by decide) (by decide)) d_M_needOf_144 ?_
        have b_98 : zB 0 4000000000 ((100000 * w) * w) := zB.w (zb_mulq b_97 hb_w (by decide) (by decide)) (by decide) (by decide)
        refine zr_lmul hx hb d_M_needOf_145 ?_
        refine lv_ldc2 (v := zl 2592) hx hb hown (hw _ m_335) d_M_needOf_146 ?_
        refine lv_lload hx hb d_M_needOf_149 (lv_at hl 0 rfl) ?_
        have b_99 : zB 51840 51840 (2592 * 20) := zB.w (zb_mulq (zb_c 2592) (zb_c 20) (by decide) (by decide)) (by decide) (by decide)
        refine zr_lmul hx hb d_M_needOf_151 ?_
        refine zr_ldiv hx hb (zB.L b_98 (by decide) (by decide)) (zB.L b_99 (by decide) (by decide)) (Int.lt_of_lt_of_le (by decide) b_99.1) d_M_needOf_152 ?_
        have b_100 : zB 0 77160 (Int.tdiv ((100000 * w) * w) (2592 * 20)) := zB.w (zb_tdivp (c := 51840) b_98 (by decide) (by decide) b_99.1) (by decide) (by decide)
        refine zr_l2i hx hb d_M_needOf_153 ?_
        have b_101 : zB 0 82715 ((Int.tdiv ((w * (N 7 4)) * 10) 36) + (Int.tdiv ((100000 * w) * w) (2592 * 20))) := zB.w (zb_add b_96 b_100) (by decide) (by decide)
        refine zr_iadd hx hb d_M_needOf_154 ?_
        exact ze_i hx hb hr hlocks hq d_M_needOf_155
def f_M_remaining (N : Nat → Int → Int) (a v : Int) : Int := if v = 0 then ((N 3 ((N 7 0) - 1)) - (N 3 a)) else (N 3 a)
theorem br_M_remaining (N : Nat → Int → Int) (a v : Int) (hI : jN N) (_ : zB 0 59 a) (_ : zB 0 1 v) (_ : 0 < N 7 0) : zB (-2545620) 2545620 (f_M_remaining N a v) := by
  unfold f_M_remaining
  split
  · exact zB.w (zb_sub (jN_a3 hI _) (jN_a3 hI _)) (by decide) (by decide)
  · exact zB.w (jN_a3 hI _) (by decide) (by decide)
set_option maxHeartbeats 4000000 in
set_option maxRecDepth 100000 in
theorem k_M_remaining (l : Launch) (dC : Nat → ClassId) (dI : Nat → Nat → Nat) (ad : Nat → Nat) (cI : ClassId) (N : Nat → Int → Int) (k0 k1 k2 k3 : Int) (hI : jN N) (a v : Int) (hb_a : zB 0 59 a) (hb_v : zB 0 1 v) (hy_0 : 0 < N 7 0) : Met l y_M_remaining (Cond.code y_M_remaining c_M_remaining 3 (some .int) :: zT) { frames := 0, cells := 0, slots := 0, locals := 0 } (va_Pc ([.ref (ad 0), .int (zi a), .int (zi v)] : List Value) (zWM dC dI ad cI N k0 k1 k2 k3)) (zR (.int (zi (f_M_remaining N a v)))) 0 0 (fun _ => False) := by
  refine zh (cc := c_M_remaining) (C := R_M) (by decide) rfl rfl (Nat.le_of_ble_eq_true rfl) ?_
  intro p e s m below meth c ls hx hb hr hlocks hml hown hname hts hl hB
  have hw : ∀ w9 ∈ zT, w9.before ([.ref (ad 0), .int (zi a), .int (zi v)] : List Value).toArray s = true := fun w9 h => hts w9 (List.mem_cons_of_mem _ h)
  obtain ⟨hP, hK⟩ := hB
  obtain ⟨hn0, hn1⟩ := id (jN_s0 hI)
  obtain ⟨hz0, hz1⟩ := id (jN_s1 hI)
  obtain ⟨hl_a, hh_a⟩ := id hb_a
  obtain ⟨hl_v, hh_v⟩ := id hb_v
  generalize hq : f_M_remaining N a v = r
  unfold f_M_remaining at hq
  replace hl : lv_has ls 3 [(0, .ref (ad 0)), (1, .int (zi a)), (2, .int (zi v))] := hl
  refine lv_iload_n hx hb d_M_remaining_0 rfl (lv_at hl 2 rfl) ?_
  refine zr_if_eq (tgt := 13) hx hb (zB.I hb_v (by decide) (by decide)) d_M_remaining_1 (by decide) (fun c_1 => ?_) (fun c_1 => ?_)
  · replace hq := (if_pos c_1).symm.trans hq
    have r_2 : zB 0 0 v := ⟨(Int.le_of_eq c_1.symm), (Int.le_of_eq c_1)⟩
    refine lv_aload_n hx hb d_M_remaining_13 rfl (lv_at hl 0 rfl) ?_
    refine va_get (D := (dC, dI)) (ci := 2) (v := .ref (ad 4)) (C := R_M) (T := T_M) (N := 17) hx hb hw i_M hown hK hP 0 rfl rfl 4 (by decide) (hw _ m_230) (fun _ h9 => h9) rfl d_M_remaining_14 ?_
    refine lv_aload_n hx hb d_M_remaining_17 rfl (lv_at hl 0 rfl) ?_
    refine va_get (D := (dC, dI)) (ci := 2) (v := .int (zi (N 7 0))) (C := R_M) (T := T_M) (N := 17) hx hb hw i_M hown hK hP 0 rfl rfl 0 (by decide) (hw _ m_226) (fun _ h9 => h9) rfl d_M_remaining_18 ?_
    refine lv_iconst (v := zi 1) hx hb d_M_remaining_21 rfl ?_
    have b_3 : zB (-1) 59 ((N 7 0) - 1) := zB.w (zb_sub (jN_s0 hI) (zb_c 1)) (by decide) (by decide)
    refine zr_isub hx hb d_M_remaining_22 ?_
    refine zr_iald hx hb hK hP 4 0 (cA := cI) (n := 60) (g := N 3) rfl rfl (i := (N 7 0) - 1) (by omega) (by omega) (by decide) d_M_remaining_23 ?_
    refine lv_aload_n hx hb d_M_remaining_24 rfl (lv_at hl 0 rfl) ?_
    refine va_get (D := (dC, dI)) (ci := 2) (v := .ref (ad 4)) (C := R_M) (T := T_M) (N := 17) hx hb hw i_M hown hK hP 0 rfl rfl 4 (by decide) (hw _ m_230) (fun _ h9 => h9) rfl d_M_remaining_25 ?_
    refine lv_iload_n hx hb d_M_remaining_28 rfl (lv_at hl 1 rfl) ?_
    refine zr_iald hx hb hK hP 4 0 (cA := cI) (n := 60) (g := N 3) rfl rfl (i := a) (by omega) (by omega) (by decide) d_M_remaining_29 ?_
    have b_4 : zB (-2545620) 2545620 ((N 3 ((N 7 0) - 1)) - (N 3 a)) := zB.w (zb_sub (jN_a3 hI ((N 7 0) - 1)) (jN_a3 hI a)) (by decide) (by decide)
    refine zr_isub hx hb d_M_remaining_30 ?_
    exact ze_i hx hb hr hlocks hq d_M_remaining_31
  · replace hq := (if_neg c_1).symm.trans hq
    have r_5 : zB 1 1 v := ⟨(by have := hb_v.1; omega), hb_v.2⟩
    refine lv_aload_n hx hb d_M_remaining_4 rfl (lv_at hl 0 rfl) ?_
    refine va_get (D := (dC, dI)) (ci := 2) (v := .ref (ad 4)) (C := R_M) (T := T_M) (N := 17) hx hb hw i_M hown hK hP 0 rfl rfl 4 (by decide) (hw _ m_230) (fun _ h9 => h9) rfl d_M_remaining_5 ?_
    refine lv_iload_n hx hb d_M_remaining_8 rfl (lv_at hl 1 rfl) ?_
    refine zr_iald hx hb hK hP 4 0 (cA := cI) (n := 60) (g := N 3) rfl rfl (i := a) (by omega) (by omega) (by decide) d_M_remaining_9 ?_
    refine lv_goto (tgt := 31) hx hb d_M_remaining_10 (by decide) ?_
    exact ze_i hx hb hr hlocks hq d_M_remaining_31
