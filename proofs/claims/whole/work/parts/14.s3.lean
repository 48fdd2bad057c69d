set_option maxHeartbeats 4000000 in
set_option maxRecDepth 100000 in
theorem k_B_takeWhole (l : Launch) (dC : Nat → ClassId) (dI : Nat → Nat → Nat) (ad : Nat → Nat) (cI : ClassId) (S : Nat → Int → Int) (k0 k1 k2 k3 : Int) (hI : iS S) (hj : zJ 13 ad) : Met l y_B_takeWhole (Cond.code y_B_takeWhole c_B_takeWhole 1 none :: zT) { frames := 0, cells := 0, slots := 0, locals := 0 } (va_Pc ([.ref (ad 7)] : List Value) (zWS dC dI ad cI S k0 k1 k2 k3)) (zQ none (fun H => va_P (dC, dI) classes (wS ad cI S 0 1 1 1) H) (zAS ad)) 0 0 (zAS ad) := by
  refine zh (cc := c_B_takeWhole) (C := R_B) (by decide) rfl rfl (Nat.le_of_ble_eq_true rfl) ?_
  intro p e s m below meth c ls hx hb hr hlocks hml hown hname hts hl hB
  have hw : ∀ w9 ∈ zT, w9.before ([.ref (ad 7)] : List Value).toArray s = true := fun w9 h => hts w9 (List.mem_cons_of_mem _ h)
  obtain ⟨hP, hK, hN⟩ := hB
  obtain ⟨hn0, hn1⟩ := id (iS_s0 hI)
  have hD := zDS hj cI
  have hS : va_S (zAS ad) s.heap s.heap [] := va_S.rf
  obtain ⟨hz0, hz1⟩ := id (iS_s6 hI)
  replace hl : lv_has ls 1 [(0, .ref (ad 7))] := hl
  refine lv_aload_n hx hb d_B_takeWhole_0 rfl (lv_at hl 0 rfl) ?_
  refine lv_lconst (v := zl 0) hx hb d_B_takeWhole_1 (by decide) ?_
  refine va_put (D := (dC, dI)) (ci := 0) (v := .long (zl 0)) (ty := .long) (C := R_B) (T := T_B) (N := 10) hx hb hw i_B t_B ty_B nm_B hown hK hP (hD _ _ _ _ _) hS 7 rfl rfl 6 (by decide) (hw _ m_26) (fun _ h9 => h9) rfl (by decide +kernel) rfl rfl (Nat.le_of_ble_eq_true rfl) d_B_takeWhole_2 (fun H locs hP _ hS => ?_)
  replace hP : va_P (dC, dI) classes (wS ad cI S 0 k1 k2 k3) H := hP
  refine lv_aload_n hx hb d_B_takeWhole_5 rfl (lv_at hl 0 rfl) ?_
  refine lv_lconst (v := zl 1) hx hb d_B_takeWhole_6 (by decide) ?_
  refine va_put (D := (dC, dI)) (ci := 0) (v := .long (zl 1)) (ty := .long) (C := R_B) (T := T_B) (N := 10) hx hb hw i_B t_B ty_B nm_B hown hK hP (hD _ _ _ _ _) hS 7 rfl rfl 7 (by decide) (hw _ m_27) (fun _ h9 => h9) rfl (by decide +kernel) rfl rfl (Nat.le_of_ble_eq_true rfl) d_B_takeWhole_7 (fun H locs hP _ hS => ?_)
  replace hP : va_P (dC, dI) classes (wS ad cI S 0 1 k2 k3) H := hP
  refine lv_aload_n hx hb d_B_takeWhole_10 rfl (lv_at hl 0 rfl) ?_
  refine lv_lconst (v := zl 1) hx hb d_B_takeWhole_11 (by decide) ?_
  refine va_put (D := (dC, dI)) (ci := 0) (v := .long (zl 1)) (ty := .long) (C := R_B) (T := T_B) (N := 10) hx hb hw i_B t_B ty_B nm_B hown hK hP (hD _ _ _ _ _) hS 7 rfl rfl 8 (by decide) (hw _ m_28) (fun _ h9 => h9) rfl (by decide +kernel) rfl rfl (Nat.le_of_ble_eq_true rfl) d_B_takeWhole_12 (fun H locs hP _ hS => ?_)
  replace hP : va_P (dC, dI) classes (wS ad cI S 0 1 1 k3) H := hP
  refine lv_aload_n hx hb d_B_takeWhole_15 rfl (lv_at hl 0 rfl) ?_
  refine lv_lconst (v := zl 1) hx hb d_B_takeWhole_16 (by decide) ?_
  refine va_put (D := (dC, dI)) (ci := 0) (v := .long (zl 1)) (ty := .long) (C := R_B) (T := T_B) (N := 10) hx hb hw i_B t_B ty_B nm_B hown hK hP (hD _ _ _ _ _) hS 7 rfl rfl 9 (by decide) (hw _ m_29) (fun _ h9 => h9) rfl (by decide +kernel) rfl rfl (Nat.le_of_ble_eq_true rfl) d_B_takeWhole_17 (fun H locs hP _ hS => ?_)
  replace hP : va_P (dC, dI) classes (wS ad cI S 0 1 1 1) H := hP
  exact zw_v hx hb hr hlocks hP hS d_B_takeWhole_20
def f_B_narrow (a b d v : Int) (k0 k1 k2 k3 : Int) : Int × Int × Int × Int × Int := if b = 0 then (if a < d then ((0, k0, k1, k2, k3)) else (if v < a then ((0, k0, k1, k2, k3)) else ((1, k0, k1, k2, k3)))) else (if 0 < b then (if (k0 * (zabs b)) < ((d - a) * k1) then (if ((v - a) * k3) < (k2 * (zabs b)) then (if ((v - a) * (zabs b)) < ((d - a) * (zabs b)) then ((0, d - a, zabs b, v - a, zabs b)) else ((1, d - a, zabs b, v - a, zabs b))) else (if (k2 * (zabs b)) < ((d - a) * k3) then ((0, d - a, zabs b, k2, k3)) else ((1, d - a, zabs b, k2, k3)))) else (if ((v - a) * k3) < (k2 * (zabs b)) then (if ((v - a) * k1) < (k0 * (zabs b)) then ((0, k0, k1, v - a, zabs b)) else ((1, k0, k1, v - a, zabs b))) else (if (k2 * k1) < (k0 * k3) then ((0, k0, k1, k2, k3)) else ((1, k0, k1, k2, k3))))) else (if (k0 * (zabs b)) < ((a - v) * k1) then (if ((a - d) * k3) < (k2 * (zabs b)) then (if ((a - d) * (zabs b)) < ((a - v) * (zabs b)) then ((0, a - v, zabs b, a - d, zabs b)) else ((1, a - v, zabs b, a - d, zabs b))) else (if (k2 * (zabs b)) < ((a - v) * k3) then ((0, a - v, zabs b, k2, k3)) else ((1, a - v, zabs b, k2, k3)))) else (if ((a - d) * k3) < (k2 * (zabs b)) then (if ((a - d) * k1) < (k0 * (zabs b)) then ((0, k0, k1, a - d, zabs b)) else ((1, k0, k1, a - d, zabs b))) else (if (k2 * k1) < (k0 * k3) then ((0, k0, k1, k2, k3)) else ((1, k0, k1, k2, k3))))))
theorem b_B_narrow (a b d v k0 k1 k2 k3 : Int) (ha : zB (-15000) 15000 a) (hb : zB (-30000) 30000 b) (hd : zB (-15000) 15000 d) (hv : zB (-15000) 15000 v) (h0 : zB (-30000) 30000 k0) (h1 : zB (-30000) 30000 k1) (h2 : zB (-30000) 30000 k2) (h3 : zB (-30000) 30000 k3) : zB (-30000) 30000 (f_B_narrow a b d v k0 k1 k2 k3).2.1 ∧ zB (-30000) 30000 (f_B_narrow a b d v k0 k1 k2 k3).2.2.1 ∧ zB (-30000) 30000 (f_B_narrow a b d v k0 k1 k2 k3).2.2.2.1 ∧ zB (-30000) 30000 (f_B_narrow a b d v k0 k1 k2 k3).2.2.2.2 := by
  generalize hq : f_B_narrow a b d v k0 k1 k2 k3 = r
  unfold f_B_narrow at hq
  unfold zabs at hq
  unfold zB at *
  repeat' split at hq
  all_goals (subst hq; refine ⟨?_, ?_, ?_, ?_⟩ <;> dsimp only <;> omega)
theorem bb_B_narrow (a b d v k0 k1 k2 k3 : Int) : zB 0 1 (f_B_narrow a b d v k0 k1 k2 k3).1 := by
  generalize hq : f_B_narrow a b d v k0 k1 k2 k3 = r
  unfold f_B_narrow at hq
  repeat' split at hq
  all_goals (subst hq; first | exact (⟨by decide, by decide⟩ : zB 0 1 0) | exact (⟨by decide, by decide⟩ : zB 0 1 1))
set_option maxHeartbeats 4000000 in
set_option maxRecDepth 100000 in
theorem k_B_narrow (l : Launch) (dC : Nat → ClassId) (dI : Nat → Nat → Nat) (ad : Nat → Nat) (cI : ClassId) (S : Nat → Int → Int) (k0 k1 k2 k3 : Int) (hI : iS S) (hj : zJ 13 ad) (hb_k0 : zB (-30000) 30000 k0) (hb_k1 : zB (-30000) 30000 k1) (hb_k2 : zB (-30000) 30000 k2) (hb_k3 : zB (-30000) 30000 k3) (a b d v : Int) (hb_a : zB (-15000) 15000 a) (hb_b : zB (-30000) 30000 b) (hb_d : zB (-15000) 15000 d) (hb_v : zB (-15000) 15000 v) : Met l y_B_narrow (Cond.code y_B_narrow c_B_narrow 11 (some .boolean) :: zT) { frames := 1, cells := 0, slots := 0, locals := 13 } (va_Pc ([.ref (ad 7), .int (zi a), .int (zi b), .int (zi d), .int (zi v)] : List Value) (zWS dC dI ad cI S k0 k1 k2 k3)) (zQ (some (.int (zi (f_B_narrow a b d v k0 k1 k2 k3).1))) (fun H => va_P (dC, dI) classes (wS ad cI S (f_B_narrow a b d v k0 k1 k2 k3).2.1 (f_B_narrow a b d v k0 k1 k2 k3).2.2.1 (f_B_narrow a b d v k0 k1 k2 k3).2.2.2.1 (f_B_narrow a b d v k0 k1 k2 k3).2.2.2.2) H) (zAS ad)) 0 0 (zAS ad) := by
  refine zh (cc := c_B_narrow) (C := R_B) (by decide) rfl rfl (Nat.le_of_ble_eq_true rfl) ?_
  intro p e s m below meth c ls hx hb hr hlocks hml hown hname hts hl hB
  have hw : ∀ w9 ∈ zT, w9.before ([.ref (ad 7), .int (zi a), .int (zi b), .int (zi d), .int (zi v)] : List Value).toArray s = true := fun w9 h => hts w9 (List.mem_cons_of_mem _ h)
  obtain ⟨hP, hK, hN⟩ := hB
  obtain ⟨hn0, hn1⟩ := id (iS_s0 hI)
  have hD := zDS hj cI
  have hS : va_S (zAS ad) s.heap s.heap [] := va_S.rf
  obtain ⟨hz0, hz1⟩ := id (iS_s6 hI)
  obtain ⟨hl_a, hh_a⟩ := id hb_a
  obtain ⟨hl_b, hh_b⟩ := id hb_b
  obtain ⟨hl_d, hh_d⟩ := id hb_d
  obtain ⟨hl_v, hh_v⟩ := id hb_v
  generalize hq : f_B_narrow a b d v k0 k1 k2 k3 = r
  unfold f_B_narrow at hq
  replace hl : lv_has ls 11 [(0, .ref (ad 7)), (1, .int (zi a)), (2, .int (zi b)), (3, .int (zi d)), (4, .int (zi v))] := hl
  refine lv_iload_n hx hb d_B_narrow_0 rfl (lv_at hl 2 rfl) ?_
  refine zr_if_ne (tgt := 21) hx hb (zB.I hb_b (by decide) (by decide)) d_B_narrow_1 (by decide) (fun c_1 => ?_) (fun c_1 => ?_)
  · replace hq := (if_neg c_1).symm.trans hq
    refine lv_iload_n hx hb d_B_narrow_21 rfl (lv_at hl 2 rfl) ?_
    refine zr_abs hx hb (hml.trans hl.1.symm) hown (hw _ m_144) (hw _ m_121) (hw _ m_4) (hw _ m_122) (Nat.le_of_ble_eq_true rfl) (Nat.le_of_ble_eq_true rfl) (Nat.zero_le _) (Nat.zero_le _) (zB.I hb_b (by decide) (by decide)) d_B_narrow_22 ?_
    have b_2 : zB 0 30000 (zabs b) := zB.w (zb_zabs (A := 30000) (zB.w hb_b (by decide) (by decide))) (by decide) (by decide)
    obtain ⟨hl_b_2, hh_b_2⟩ := id b_2
    refine zr_i2l hx hb (zB.I b_2 (by decide) (by decide)) d_B_narrow_25 ?_
    refine lv_lstore (lv' := [(5, .long (zl (zabs b))), (0, .ref (ad 7)), (1, .int (zi a)), (2, .int (zi b)), (3, .int (zi d)), (4, .int (zi v))]) hx hb d_B_narrow_26 hl (by decide) rfl (fun ls hl => ?_)
    refine lv_iload_n hx hb d_B_narrow_28 rfl (lv_at hl 3 rfl) ?_
    refine zr_if_le (tgt := 39) hx hb (zB.I hb_b (by decide) (by decide)) d_B_narrow_29 (by decide) (fun c_3 => ?_) (fun c_3 => ?_)
    · replace hq := (if_neg c_3).symm.trans hq
      have r_4 : zB (-30000) 0 b := ⟨hb_b.1, (Int.not_lt.mp c_3)⟩
      refine lv_iload_n hx hb d_B_narrow_39 rfl (lv_at hl 2 rfl) ?_
      refine lv_iload hx hb d_B_narrow_40 (lv_at hl 5 rfl) ?_
      have b_5 : zB (-30000) 30000 (a - v) := zB.w (zb_sub hb_a hb_v) (by decide) (by decide)
      refine zr_isub hx hb d_B_narrow_42 ?_
      refine zr_i2l hx hb (zB.I b_5 (by decide) (by decide)) d_B_narrow_43 ?_
      refine lv_lstore (lv' := [(7, .long (zl (a - v))), (5, .long (zl (zabs b))), (0, .ref (ad 7)), (1, .int (zi a)), (2, .int (zi b)), (3, .int (zi d)), (4, .int (zi v))]) hx hb d_B_narrow_44 hl (by decide) rfl (fun ls hl => ?_)
      refine lv_iload_n hx hb d_B_narrow_46 rfl (lv_at hl 4 rfl) ?_
      refine zr_if_le (tgt := 58) hx hb (zB.I r_4 (by decide) (by decide)) d_B_narrow_47 (by decide) (fun _ => ?_) (fun c => absurd c c_3)
      refine lv_iload_n hx hb d_B_narrow_58 rfl (lv_at hl 3 rfl) ?_
      refine lv_iload_n hx hb d_B_narrow_59 rfl (lv_at hl 5 rfl) ?_
      have b_6 : zB (-30000) 30000 (a - d) := zB.w (zb_sub hb_a hb_d) (by decide) (by decide)
      refine zr_isub hx hb d_B_narrow_60 ?_
      refine zr_i2l hx hb (zB.I b_6 (by decide) (by decide)) d_B_narrow_61 ?_
      refine lv_lstore (lv' := [(9, .long (zl (a - d))), (7, .long (zl (a - v))), (5, .long (zl (zabs b))), (0, .ref (ad 7)), (1, .int (zi a)), (2, .int (zi b)), (3, .int (zi d)), (4, .int (zi v))]) hx hb d_B_narrow_62 hl (by decide) rfl (fun ls hl => ?_)
      refine lv_lload hx hb d_B_narrow_64 (lv_at hl 1 rfl) ?_
      refine lv_aload_n hx hb d_B_narrow_66 rfl (lv_at hl 3 rfl) ?_
      refine va_get (D := (dC, dI)) (ci := 0) (v := .long (zl k1)) (C := R_B) (T := T_B) (N := 10) hx hb hw i_B hown hK hP 7 rfl rfl 7 (by decide) (hw _ m_27) (fun _ h9 => h9) rfl d_B_narrow_67 ?_
      have b_7 : zB (-900000000) 900000000 ((a - v) * k1) := zB.w (zb_mul (A := 30000) (B := 30000) (zB.w b_5 (by decide) (by decide)) (zB.w hb_k1 (by decide) (by decide))) (by decide) (by decide)
      refine zr_lmul hx hb d_B_narrow_70 ?_
      refine lv_aload_n hx hb d_B_narrow_71 rfl (lv_at hl 3 rfl) ?_
      refine va_get (D := (dC, dI)) (ci := 0) (v := .long (zl k0)) (C := R_B) (T := T_B) (N := 10) hx hb hw i_B hown hK hP 7 rfl rfl 6 (by decide) (hw _ m_26) (fun _ h9 => h9) rfl d_B_narrow_72 ?_
      refine lv_lload hx hb d_B_narrow_75 (lv_at hl 2 rfl) ?_
      have b_8 : zB (-900000000) 900000000 (k0 * (zabs b)) := zB.w (zb_mul (A := 30000) (B := 30000) (zB.w hb_k0 (by decide) (by decide)) (zB.w b_2 (by decide) (by decide))) (by decide) (by decide)
      refine zr_lmul hx hb d_B_narrow_77 ?_
      refine zr_lcmp_le (tgt := 94) hx hb (zB.L b_7 (by decide) (by decide)) (zB.L b_8 (by decide) (by decide)) d_B_narrow_78 d_B_narrow_79 (by decide) (fun c_9 => ?_) (fun c_9 => ?_)
      · replace hq := (if_neg c_9).symm.trans hq
        refine lv_lload hx hb d_B_narrow_94 (lv_at hl 0 rfl) ?_
        refine lv_aload_n hx hb d_B_narrow_96 rfl (lv_at hl 3 rfl) ?_
        refine va_get (D := (dC, dI)) (ci := 0) (v := .long (zl k3)) (C := R_B) (T := T_B) (N := 10) hx hb hw i_B hown hK hP 7 rfl rfl 9 (by decide) (hw _ m_29) (fun _ h9 => h9) rfl d_B_narrow_97 ?_
        have b_10 : zB (-900000000) 900000000 ((a - d) * k3) := zB.w (zb_mul (A := 30000) (B := 30000) (zB.w b_6 (by decide) (by decide)) (zB.w hb_k3 (by decide) (by decide))) (by decide) (by decide)
        refine zr_lmul hx hb d_B_narrow_100 ?_
        refine lv_aload_n hx hb d_B_narrow_101 rfl (lv_at hl 3 rfl) ?_
        refine va_get (D := (dC, dI)) (ci := 0) (v := .long (zl k2)) (C := R_B) (T := T_B) (N := 10) hx hb hw i_B hown hK hP 7 rfl rfl 8 (by decide) (hw _ m_28) (fun _ h9 => h9) rfl d_B_narrow_102 ?_
        refine lv_lload hx hb d_B_narrow_105 (lv_at hl 2 rfl) ?_
        have b_11 : zB (-900000000) 900000000 (k2 * (zabs b)) := zB.w (zb_mul (A := 30000) (B := 30000) (zB.w hb_k2 (by decide) (by decide)) (zB.w b_2 (by decide) (by decide))) (by decide) (by decide)
        refine zr_lmul hx hb d_B_narrow_107 ?_
        refine zr_lcmp_ge (tgt := 124) hx hb (zB.L b_10 (by decide) (by decide)) (zB.L b_11 (by decide) (by decide)) d_B_narrow_108 d_B_narrow_109 (by decide) (fun c_12 => ?_) (fun c_12 => ?_)
        · replace hq := (if_neg c_12).symm.trans hq
          refine lv_aload_n hx hb d_B_narrow_124 rfl (lv_at hl 3 rfl) ?_
          refine va_get (D := (dC, dI)) (ci := 0) (v := .long (zl k0)) (C := R_B) (T := T_B) (N := 10) hx hb hw i_B hown hK hP 7 rfl rfl 6 (by decide) (hw _ m_26) (fun _ h9 => h9) rfl d_B_narrow_125 ?_
          refine lv_aload_n hx hb d_B_narrow_128 rfl (lv_at hl 3 rfl) ?_
          refine va_get (D := (dC, dI)) (ci := 0) (v := .long (zl k3)) (C := R_B) (T := T_B) (N := 10) hx hb hw i_B hown hK hP 7 rfl rfl 9 (by decide) (hw _ m_29) (fun _ h9 => h9) rfl d_B_narrow_129 ?_
          have b_13 : zB (-900000000) 900000000 (k0 * k3) := zB.w (zb_mul (A := 30000) (B := 30000) (zB.w hb_k0 (by decide) (by decide)) (zB.w hb_k3 (by decide) (by decide))) (by decide) (by decide)
          refine zr_lmul hx hb d_B_narrow_132 ?_
          refine lv_aload_n hx hb d_B_narrow_133 rfl (lv_at hl 3 rfl) ?_
          refine va_get (D := (dC, dI)) (ci := 0) (v := .long (zl k2)) (C := R_B) (T := T_B) (N := 10) hx hb hw i_B hown hK hP 7 rfl rfl 8 (by decide) (hw _ m_28) (fun _ h9 => h9) rfl d_B_narrow_134 ?_
          refine lv_aload_n hx hb d_B_narrow_137 rfl (lv_at hl 3 rfl) ?_
          refine va_get (D := (dC, dI)) (ci := 0) (v := .long (zl k1)) (C := R_B) (T := T_B) (N := 10) hx hb hw i_B hown hK hP 7 rfl rfl 7 (by decide) (hw _ m_27) (fun _ h9 => h9) rfl d_B_narrow_138 ?_
          have b_14 : zB (-900000000) 900000000 (k2 * k1) := zB.w (zb_mul (A := 30000) (B := 30000) (zB.w hb_k2 (by decide) (by decide)) (zB.w hb_k1 (by decide) (by decide))) (by decide) (by decide)
          refine zr_lmul hx hb d_B_narrow_141 ?_
          refine zr_lcmp_gt (tgt := 150) hx hb (zB.L b_13 (by decide) (by decide)) (zB.L b_14 (by decide) (by decide)) d_B_narrow_142 d_B_narrow_143 (by decide) (fun c_15 => ?_) (fun c_15 => ?_)
          · replace hq := (if_pos c_15).symm.trans hq
            refine lv_iconst (v := zi 0) hx hb d_B_narrow_150 rfl ?_
            subst hq
            exact zw_z hx hb hr hlocks (zB.w (zb_c 0) (by decide) (by decide)) rfl hP hS d_B_narrow_151
          · replace hq := (if_neg c_15).symm.trans hq
            refine lv_iconst (v := zi 1) hx hb d_B_narrow_146 rfl ?_
            refine lv_goto (tgt := 151) hx hb d_B_narrow_147 (by decide) ?_
            subst hq
            exact zw_z hx hb hr hlocks (zB.w (zb_c 1) (by decide) (by decide)) rfl hP hS d_B_narrow_151
        · replace hq := (if_pos c_12).symm.trans hq
          refine lv_aload_n hx hb d_B_narrow_112 rfl (lv_at hl 3 rfl) ?_
          refine lv_lload hx hb d_B_narrow_113 (lv_at hl 0 rfl) ?_
          refine va_put (D := (dC, dI)) (ci := 0) (v := .long (zl (a - d))) (ty := .long) (C := R_B) (T := T_B) (N := 10) hx hb hw i_B t_B ty_B nm_B hown hK hP (hD _ _ _ _ _) hS 7 rfl rfl 8 (by decide) (hw _ m_28) (fun _ h9 => h9) rfl (by decide +kernel) rfl rfl (Nat.le_of_ble_eq_true rfl) d_B_narrow_115 (fun H locs hP _ hS => ?_)
          replace hP : va_P (dC, dI) classes (wS ad cI S k0 k1 (a - d) k3) H := hP
          refine lv_aload_n hx hb d_B_narrow_118 rfl (lv_at hl 3 rfl) ?_
          refine lv_lload hx hb d_B_narrow_119 (lv_at hl 2 rfl) ?_
          refine va_put (D := (dC, dI)) (ci := 0) (v := .long (zl (zabs b))) (ty := .long) (C := R_B) (T := T_B) (N := 10) hx hb hw i_B t_B ty_B nm_B hown hK hP (hD _ _ _ _ _) hS 7 rfl rfl 9 (by decide) (hw _ m_29) (fun _ h9 => h9) rfl (by decide +kernel) rfl rfl (Nat.le_of_ble_eq_true rfl) d_B_narrow_121 (fun H locs hP _ hS => ?_)
          replace hP : va_P (dC, dI) classes (wS ad cI S k0 k1 (a - d) (zabs b)) H := hP
          refine lv_aload_n hx hb d_B_narrow_124 rfl (lv_at hl 3 rfl) ?_
          refine va_get (D := (dC, dI)) (ci := 0) (v := .long (zl k0)) (C := R_B) (T := T_B) (N := 10) hx hb hw i_B hown hK hP 7 rfl rfl 6 (by decide) (hw _ m_26) (fun _ h9 => h9) rfl d_B_narrow_125 ?_
          refine lv_aload_n hx hb d_B_narrow_128 rfl (lv_at hl 3 rfl) ?_
          refine va_get (D := (dC, dI)) (ci := 0) (v := .long (zl (zabs b))) (C := R_B) (T := T_B) (N := 10) hx hb hw i_B hown hK hP 7 rfl rfl 9 (by decide) (hw _ m_29) (fun _ h9 => h9) rfl d_B_narrow_129 ?_
          refine zr_lmul hx hb d_B_narrow_132 ?_
          refine lv_aload_n hx hb d_B_narrow_133 rfl (lv_at hl 3 rfl) ?_
          refine va_get (D := (dC, dI)) (ci := 0) (v := .long (zl (a - d))) (C := R_B) (T := T_B) (N := 10) hx hb hw i_B hown hK hP 7 rfl rfl 8 (by decide) (hw _ m_28) (fun _ h9 => h9) rfl d_B_narrow_134 ?_
          refine lv_aload_n hx hb d_B_narrow_137 rfl (lv_at hl 3 rfl) ?_
          refine va_get (D := (dC, dI)) (ci := 0) (v := .long (zl k1)) (C := R_B) (T := T_B) (N := 10) hx hb hw i_B hown hK hP 7 rfl rfl 7 (by decide) (hw _ m_27) (fun _ h9 => h9) rfl d_B_narrow_138 ?_
          have b_16 : zB (-900000000) 900000000 ((a - d) * k1) := zB.w (zb_mul (A := 30000) (B := 30000) (zB.w b_6 (by decide) (by decide)) (zB.w hb_k1 (by decide) (by decide))) (by decide) (by decide)
          refine zr_lmul hx hb d_B_narrow_141 ?_
          refine zr_lcmp_gt (tgt := 150) hx hb (zB.L b_8 (by decide) (by decide)) (zB.L b_16 (by decide) (by decide)) d_B_narrow_142 d_B_narrow_143 (by decide) (fun c_17 => ?_) (fun c_17 => ?_)
          · replace hq := (if_pos c_17).symm.trans hq
            refine lv_iconst (v := zi 0) hx hb d_B_narrow_150 rfl ?_
            subst hq
            exact zw_z hx hb hr hlocks (zB.w (zb_c 0) (by decide) (by decide)) rfl hP hS d_B_narrow_151
          · replace hq := (if_neg c_17).symm.trans hq
            refine lv_iconst (v := zi 1) hx hb d_B_narrow_146 rfl ?_
            refine lv_goto (tgt := 151) hx hb d_B_narrow_147 (by decide) ?_
            subst hq
            exact zw_z hx hb hr hlocks (zB.w (zb_c 1) (by decide) (by decide)) rfl hP hS d_B_narrow_151
      · replace hq := (if_pos c_9).symm.trans hq
        refine lv_aload_n hx hb d_B_narrow_82 rfl (lv_at hl 3 rfl) ?_
        refine lv_lload hx hb d_B_narrow_83 (lv_at hl 1 rfl) ?_
        refine va_put (D := (dC, dI)) (ci := 0) (v := .long (zl (a - v))) (ty := .long) (C := R_B) (T := T_B) (N := 10) hx hb hw i_B t_B ty_B nm_B hown hK hP (hD _ _ _ _ _) hS 7 rfl rfl 6 (by decide) (hw _ m_26) (fun _ h9 => h9) rfl (by decide +kernel) rfl rfl (Nat.le_of_ble_eq_true rfl) d_B_narrow_85 (fun H locs hP _ hS => ?_)
        replace hP : va_P (dC, dI) classes (wS ad cI S (a - v) k1 k2 k3) H := hP
        refine lv_aload_n hx hb d_B_narrow_88 rfl (lv_at hl 3 rfl) ?_
        refine lv_lload hx hb d_B_narrow_89 (lv_at hl 2 rfl) ?_
        refine va_put (D := (dC, dI)) (ci := 0) (v := .long (zl (zabs b))) (ty := .long) (C := R_B) (T := T_B) (N := 10) hx hb hw i_B t_B ty_B nm_B hown hK hP (hD _ _ _ _ _) hS 7 rfl rfl 7 (by decide) (hw _ m_27) (fun _ h9 => h9) rfl (by decide +kernel) rfl rfl (Nat.le_of_ble_eq_true rfl) d_B_narrow_91 (fun H locs hP _ hS => ?_)
        replace hP : va_P (dC, dI) classes (wS ad cI S (a - v) (zabs b) k2 k3) H := hP
        refine lv_lload hx hb d_B_narrow_94 (lv_at hl 0 rfl) ?_
        refine lv_aload_n hx hb d_B_narrow_96 rfl (lv_at hl 3 rfl) ?_
        refine va_get (D := (dC, dI)) (ci := 0) (v := .long (zl k3)) (C := R_B) (T := T_B) (N := 10) hx hb hw i_B hown hK hP 7 rfl rfl 9 (by decide) (hw _ m_29) (fun _ h9 => h9) rfl d_B_narrow_97 ?_
        have b_18 : zB (-900000000) 900000000 ((a - d) * k3) := zB.w (zb_mul (A := 30000) (B := 30000) (zB.w b_6 (by decide) (by decide)) (zB.w hb_k3 (by decide) (by decide))) (by decide) (by decide)
        refine zr_lmul hx hb d_B_narrow_100 ?_
        refine lv_aload_n hx hb d_B_narrow_101 rfl (lv_at hl 3 rfl) ?_
        refine va_get (D := (dC, dI)) (ci := 0) (v := .long (zl k2)) (C := R_B) (T := T_B) (N := 10) hx hb hw i_B hown hK hP 7 rfl rfl 8 (by decide) (hw _ m_28) (fun _ h9 => h9) rfl d_B_narrow_102 ?_
        refine lv_lload hx hb d_B_narrow_105 (lv_at hl 2 rfl) ?_
        have b_19 : zB (-900000000) 900000000 (k2 * (zabs b)) := zB.w (zb_mul (A := 30000) (B := 30000) (zB.w hb_k2 (by decide) (by decide)) (zB.w b_2 (by decide) (by decide))) (by decide) (by decide)
        refine zr_lmul hx hb d_B_narrow_107 ?_
        refine zr_lcmp_ge (tgt := 124) hx hb (zB.L b_18 (by decide) (by decide)) (zB.L b_19 (by decide) (by decide)) d_B_narrow_108 d_B_narrow_109 (by decide) (fun c_20 => ?_) (fun c_20 => ?_)
        · replace hq := (if_neg c_20).symm.trans hq
          refine lv_aload_n hx hb d_B_narrow_124 rfl (lv_at hl 3 rfl) ?_
          refine va_get (D := (dC, dI)) (ci := 0) (v := .long (zl (a - v))) (C := R_B) (T := T_B) (N := 10) hx hb hw i_B hown hK hP 7 rfl rfl 6 (by decide) (hw _ m_26) (fun _ h9 => h9) rfl d_B_narrow_125 ?_
          refine lv_aload_n hx hb d_B_narrow_128 rfl (lv_at hl 3 rfl) ?_
          refine va_get (D := (dC, dI)) (ci := 0) (v := .long (zl k3)) (C := R_B) (T := T_B) (N := 10) hx hb hw i_B hown hK hP 7 rfl rfl 9 (by decide) (hw _ m_29) (fun _ h9 => h9) rfl d_B_narrow_129 ?_
          have b_21 : zB (-900000000) 900000000 ((a - v) * k3) := zB.w (zb_mul (A := 30000) (B := 30000) (zB.w b_5 (by decide) (by decide)) (zB.w hb_k3 (by decide) (by decide))) (by decide) (by decide)
          refine zr_lmul hx hb d_B_narrow_132 ?_
          refine lv_aload_n hx hb d_B_narrow_133 rfl (lv_at hl 3 rfl) ?_
          refine va_get (D := (dC, dI)) (ci := 0) (v := .long (zl k2)) (C := R_B) (T := T_B) (N := 10) hx hb hw i_B hown hK hP 7 rfl rfl 8 (by decide) (hw _ m_28) (fun _ h9 => h9) rfl d_B_narrow_134 ?_
          refine lv_aload_n hx hb d_B_narrow_137 rfl (lv_at hl 3 rfl) ?_
          refine va_get (D := (dC, dI)) (ci := 0) (v := .long (zl (zabs b))) (C := R_B) (T := T_B) (N := 10) hx hb hw i_B hown hK hP 7 rfl rfl 7 (by decide) (hw _ m_27) (fun _ h9 => h9) rfl d_B_narrow_138 ?_
          refine zr_lmul hx hb d_B_narrow_141 ?_
          refine zr_lcmp_gt (tgt := 150) hx hb (zB.L b_21 (by decide) (by decide)) (zB.L b_19 (by decide) (by decide)) d_B_narrow_142 d_B_narrow_143 (by decide) (fun c_22 => ?_) (fun c_22 => ?_)
          · replace hq := (if_pos c_22).symm.trans hq
            refine lv_iconst (v := zi 0) hx hb d_B_narrow_150 rfl ?_
            subst hq
            exact zw_z hx hb hr hlocks (zB.w (zb_c 0) (by decide) (by decide)) rfl hP hS d_B_narrow_151
          · replace hq := (if_neg c_22).symm.trans hq
            refine lv_iconst (v := zi 1) hx hb d_B_narrow_146 rfl ?_
            refine lv_goto (tgt := 151) hx hb d_B_narrow_147 (by decide) ?_
            subst hq
            exact zw_z hx hb hr hlocks (zB.w (zb_c 1) (by decide) (by decide)) rfl hP hS d_B_narrow_151
        · replace hq := (if_pos c_20).symm.trans hq
          refine lv_aload_n hx hb d_B_narrow_112 rfl (lv_at hl 3 rfl) ?_
          refine lv_lload hx hb d_B_narrow_113 (lv_at hl 0 rfl) ?_
          refine va_put (D := (dC, dI)) (ci := 0) (v := .long (zl (a - d))) (ty := .long) (C := R_B) (T := T_B) (N := 10) hx hb hw i_B t_B ty_B nm_B hown hK hP (hD _ _ _ _ _) hS 7 rfl rfl 8 (by decide) (hw _ m_28) (fun _ h9 => h9) rfl (by decide +kernel) rfl rfl (Nat.le_of_ble_eq_true rfl) d_B_narrow_115 (fun H locs hP _ hS => ?_)
          replace hP : va_P (dC, dI) classes (wS ad cI S (a - v) (zabs b) (a - d) k3) H := hP
          refine lv_aload_n hx hb d_B_narrow_118 rfl (lv_at hl 3 rfl) ?_
          refine lv_lload hx hb d_B_narrow_119 (lv_at hl 2 rfl) ?_
          refine va_put (D := (dC, dI)) (ci := 0) (v := .long (zl (zabs b))) (ty := .long) (C := R_B) (T := T_B) (N := 10) hx hb hw i_B t_B ty_B nm_B hown hK hP (hD _ _ _ _ _) hS 7 rfl rfl 9 (by decide) (hw _ m_29) (fun _ h9 => h9) rfl (by decide +kernel) rfl rfl (Nat.le_of_ble_eq_true rfl) d_B_narrow_121 (fun H locs hP _ hS => ?_)
          replace hP : va_P (dC, dI) classes (wS ad cI S (a - v) (zabs b) (a - d) (zabs b)) H := hP
          refine lv_aload_n hx hb d_B_narrow_124 rfl (lv_at hl 3 rfl) ?_
          refine va_get (D := (dC, dI)) (ci := 0) (v := .long (zl (a - v))) (C := R_B) (T := T_B) (N := 10) hx hb hw i_B hown hK hP 7 rfl rfl 6 (by decide) (hw _ m_26) (fun _ h9 => h9) rfl d_B_narrow_125 ?_
          refine lv_aload_n hx hb d_B_narrow_128 rfl (lv_at hl 3 rfl) ?_
          refine va_get (D := (dC, dI)) (ci := 0) (v := .long (zl (zabs b))) (C := R_B) (T := T_B) (N := 10) hx hb hw i_B hown hK hP 7 rfl rfl 9 (by decide) (hw _ m_29) (fun _ h9 => h9) rfl d_B_narrow_129 ?_
          have b_23 : zB (-900000000) 900000000 ((a - v) * (zabs b)) := zB.w (zb_mul (A := 30000) (B := 30000) (zB.w b_5 (by decide) (by decide)) (zB.w b_2 (by decide) (by decide))) (by decide) (by decide)
          refine zr_lmul hx hb d_B_narrow_132 ?_
          refine lv_aload_n hx hb d_B_narrow_133 rfl (lv_at hl 3 rfl) ?_
          refine va_get (D := (dC, dI)) (ci := 0) (v := .long (zl (a - d))) (C := R_B) (T := T_B) (N := 10) hx hb hw i_B hown hK hP 7 rfl rfl 8 (by decide) (hw _ m_28) (fun _ h9 => h9) rfl d_B_narrow_134 ?_
          refine lv_aload_n hx hb d_B_narrow_137 rfl (lv_at hl 3 rfl) ?_
          refine va_get (D := (dC, dI)) (ci := 0) (v := .long (zl (zabs b))) (C := R_B) (T := T_B) (N := 10) hx hb hw i_B hown hK hP 7 rfl rfl 7 (by decide) (hw _ m_27) (fun _ h9 => h9) rfl d_B_narrow_138 ?_
          have b_24 : zB (-900000000) 900000000 ((a - d) * (zabs b)) := zB.w (zb_mul (A := 30000) (B := 30000) (zB.w b_6 (by decide) (by decide)) (zB.w b_2 (by decide) (by decide))) (by decide) (by decide)
          refine zr_lmul hx hb d_B_narrow_141 ?_
          refine zr_lcmp_gt (tgt := 150) hx hb (zB.L b_23 (by decide) (by decide)) (zB.L b_24 (by decide) (by decide)) d_B_narrow_142 d_B_narrow_143 (by decide) (fun c_25 => ?_) (fun c_25 => ?_)
          · replace hq := (if_pos c_25).symm.trans hq
            refine lv_iconst (v := zi 0) hx hb d_B_narrow_150 rfl ?_
            subst hq
            exact zw_z hx hb hr hlocks (zB.w (zb_c 0) (by decide) (by decide)) rfl hP hS d_B_narrow_151
          · replace hq := (if_neg c_25).symm.trans hq
            refine lv_iconst (v := zi 1) hx hb d_B_narrow_146 rfl ?_
            refine lv_goto (tgt := 151) hx hb d_B_narrow_147 (by decide) ?_
            subst hq
            exact zw_z hx hb hr hlocks (zB.w (zb_c 1) (by decide) (by decide)) rfl hP hS d_B_narrow_151
    · replace hq := (if_pos c_3).symm.trans hq
      have r_26 : zB 1 30000 b := ⟨(Int.add_one_le_of_lt c_3), hb_b.2⟩
      refine lv_iload_n hx hb d_B_narrow_32 rfl (lv_at hl 4 rfl) ?_
      refine lv_iload_n hx hb d_B_narrow_33 rfl (lv_at hl 2 rfl) ?_
      have b_27 : zB (-30000) 30000 (d - a) := zB.w (zb_sub hb_d hb_a) (by decide) (by decide)
      refine zr_isub hx hb d_B_narrow_34 ?_
      refine zr_i2l hx hb (zB.I b_27 (by decide) (by decide)) d_B_narrow_35 ?_
      refine lv_goto (tgt := 44) hx hb d_B_narrow_36 (by decide) ?_
      refine lv_lstore (lv' := [(7, .long (zl (d - a))), (5, .long (zl (zabs b))), (0, .ref (ad 7)), (1, .int (zi a)), (2, .int (zi b)), (3, .int (zi d)), (4, .int (zi v))]) hx hb d_B_narrow_44 hl (by decide) rfl (fun ls hl => ?_)
      refine lv_iload_n hx hb d_B_narrow_46 rfl (lv_at hl 4 rfl) ?_
      refine zr_if_le (tgt := 58) hx hb (zB.I r_26 (by decide) (by decide)) d_B_narrow_47 (by decide) (fun c => absurd c_3 c) (fun _ => ?_)
      refine lv_iload hx hb d_B_narrow_50 (lv_at hl 6 rfl) ?_
      refine lv_iload_n hx hb d_B_narrow_52 rfl (lv_at hl 3 rfl) ?_
      have b_28 : zB (-30000) 30000 (v - a) := zB.w (zb_sub hb_v hb_a) (by decide) (by decide)
      refine zr_isub hx hb d_B_narrow_53 ?_
      refine zr_i2l hx hb (zB.I b_28 (by decide) (by decide)) d_B_narrow_54 ?_
      refine lv_goto (tgt := 62) hx hb d_B_narrow_55 (by decide) ?_
      refine lv_lstore (lv' := [(9, .long (zl (v - a))), (7, .long (zl (d - a))), (5, .long (zl (zabs b))), (0, .ref (ad 7)), (1, .int (zi a)), (2, .int (zi b)), (3, .int (zi d)), (4, .int (zi v))]) hx hb d_B_narrow_62 hl (by decide) rfl (fun ls hl => ?_)
      refine lv_lload hx hb d_B_narrow_64 (lv_at hl 1 rfl) ?_
      refine lv_aload_n hx hb d_B_narrow_66 rfl (lv_at hl 3 rfl) ?_
      refine va_get (D := (dC, dI)) (ci := 0) (v := .long (zl k1)) (C := R_B) (T := T_B) (N := 10) hx hb hw i_B hown hK hP 7 rfl rfl 7 (by decide) (hw _ m_27) (fun _ h9 => h9) rfl d_B_narrow_67 ?_
      have b_29 : zB (-900000000) 900000000 ((d - a) * k1) := zB.w (zb_mul (A := 30000) (B := 30000) (zB.w b_27 (by decide) (by decide)) (zB.w hb_k1 (by decide) (by decide))) (by decide) (by decide)
      refine zr_lmul hx hb d_B_narrow_70 ?_
      refine lv_aload_n hx hb d_B_narrow_71 rfl (lv_at hl 3 rfl) ?_
      refine va_get (D := (dC, dI)) (ci := 0) (v := .long (zl k0)) (C := R_B) (T := T_B) (N := 10) hx hb hw i_B hown hK hP 7 rfl rfl 6 (by decide) (hw _ m_26) (fun _ h9 => h9) rfl d_B_narrow_72 ?_
      refine lv_lload hx hb d_B_narrow_75 (lv_at hl 2 rfl) ?_
      have b_30 : zB (-900000000) 900000000 (k0 * (zabs b)) := zB.w (zb_mul (A := 30000) (B := 30000) (zB.w hb_k0 (by decide) (by decide)) (zB.w b_2 (by decide) (by decide))) (by decide) (by decide)
      refine zr_lmul hx hb d_B_narrow_77 ?_
      refine zr_lcmp_le (tgt := 94) hx hb (zB.L b_29 (by decide) (by decide)) (zB.L b_30 (by decide) (by decide)) d_B_narrow_78 d_B_narrow_79 (by decide) (fun c_31 => ?_) (fun c_31 => ?_)
      · replace hq := (if_neg c_31).symm.trans hq
        refine lv_lload hx hb d_B_narrow_94 (lv_at hl 0 rfl) ?_
        refine lv_aload_n hx hb d_B_narrow_96 rfl (lv_at hl 3 rfl) ?_
        refine va_get (D := (dC, dI)) (ci := 0) (v := .long (zl k3)) (C := R_B) (T := T_B) (N := 10) hx hb hw i_B hown hK hP 7 rfl rfl 9 (by decide) (hw _ m_29) (fun _ h9 => h9) rfl d_B_narrow_97 ?_
        have b_32 : zB (-900000000) 900000000 ((v - a) * k3) := zB.w (zb_mul (A := 30000) (B := 30000) (zB.w b_28 (by decide) (by decide)) (zB.w hb_k3 (by decide) (by decide))) (by decide) (by decide)
        refine zr_lmul hx hb d_B_narrow_100 ?_
        refine lv_aload_n hx hb d_B_narrow_101 rfl (lv_at hl 3 rfl) ?_
        refine va_get (D := (dC, dI)) (ci := 0) (v := .long (zl k2)) (C := R_B) (T := T_B) (N := 10) hx hb hw i_B hown hK hP 7 rfl rfl 8 (by decide) (hw _ m_28) (fun _ h9 => h9) rfl d_B_narrow_102 ?_
        refine lv_lload hx hb d_B_narrow_105 (lv_at hl 2 rfl) ?_
        have b_33 : zB (-900000000) 900000000 (k2 * (zabs b)) := zB.w (zb_mul (A := 30000) (B := 30000) (zB.w hb_k2 (by decide) (by decide)) (zB.w b_2 (by decide) (by decide))) (by decide) (by decide)
        refine zr_lmul hx hb d_B_narrow_107 ?_
        refine zr_lcmp_ge (tgt := 124) hx hb (zB.L b_32 (by decide) (by decide)) (zB.L b_33 (by decide) (by decide)) d_B_narrow_108 d_B_narrow_109 (by decide) (fun c_34 => ?_) (fun c_34 => ?_)
        · replace hq := (if_neg c_34).symm.trans hq
          refine lv_aload_n hx hb d_B_narrow_124 rfl (lv_at hl 3 rfl) ?_
          refine va_get (D := (dC, dI)) (ci := 0) (v := .long (zl k0)) (C := R_B) (T := T_B) (N := 10) hx hb hw i_B hown hK hP 7 rfl rfl 6 (by decide) (hw _ m_26) (fun _ h9 => h9) rfl d_B_narrow_125 ?_
          refine lv_aload_n hx hb d_B_narrow_128 rfl (lv_at hl 3 rfl) ?_
          refine va_get (D := (dC, dI)) (ci := 0) (v := .long (zl k3)) (C := R_B) (T := T_B) (N := 10) hx hb hw i_B hown hK hP 7 rfl rfl 9 (by decide) (hw _ m_29) (fun _ h9 => h9) rfl d_B_narrow_129 ?_
          have b_35 : zB (-900000000) 900000000 (k0 * k3) := zB.w (zb_mul (A := 30000) (B := 30000) (zB.w hb_k0 (by decide) (by decide)) (zB.w hb_k3 (by decide) (by decide))) (by decide) (by decide)
          refine zr_lmul hx hb d_B_narrow_132 ?_
          refine lv_aload_n hx hb d_B_narrow_133 rfl (lv_at hl 3 rfl) ?_
          refine va_get (D := (dC, dI)) (ci := 0) (v := .long (zl k2)) (C := R_B) (T := T_B) (N := 10) hx hb hw i_B hown hK hP 7 rfl rfl 8 (by decide) (hw _ m_28) (fun _ h9 => h9) rfl d_B_narrow_134 ?_
          refine lv_aload_n hx hb d_B_narrow_137 rfl (lv_at hl 3 rfl) ?_
          refine va_get (D := (dC, dI)) (ci := 0) (v := .long (zl k1)) (C := R_B) (T := T_B) (N := 10) hx hb hw i_B hown hK hP 7 rfl rfl 7 (by decide) (hw _ m_27) (fun _ h9 => h9) rfl d_B_narrow_138 ?_
          have b_36 : zB (-900000000) 900000000 (k2 * k1) := zB.w (zb_mul (A := 30000) (B := 30000) (zB.w hb_k2 (by decide) (by decide)) (zB.w hb_k1 (by decide) (by decide))) (by decide) (by decide)
          refine zr_lmul hx hb d_B_narrow_141 ?_
          refine zr_lcmp_gt (tgt := 150) hx hb (zB.L b_35 (by decide) (by decide)) (zB.L b_36 (by decide) (by decide)) d_B_narrow_142 d_B_narrow_143 (by decide) (fun c_37 => ?_) (fun c_37 => ?_)
          · replace hq := (if_pos c_37).symm.trans hq
            refine lv_iconst (v := zi 0) hx hb d_B_narrow_150 rfl ?_
            subst hq
            exact zw_z hx hb hr hlocks (zB.w (zb_c 0) (by decide) (by decide)) rfl hP hS d_B_narrow_151
          · replace hq := (if_neg c_37).symm.trans hq
            refine lv_iconst (v := zi 1) hx hb d_B_narrow_146 rfl ?_
            refine lv_goto (tgt := 151) hx hb d_B_narrow_147 (by decide) ?_
            subst hq
            exact zw_z hx hb hr hlocks (zB.w (zb_c 1) (by decide) (by decide)) rfl hP hS d_B_narrow_151
        · replace hq := (if_pos c_34).symm.trans hq
          refine lv_aload_n hx hb d_B_narrow_112 rfl (lv_at hl 3 rfl) ?_
          refine lv_lload hx hb d_B_narrow_113 (lv_at hl 0 rfl) ?_
          refine va_put (D := (dC, dI)) (ci := 0) (v := .long (zl (v - a))) (ty := .long) (C := R_B) (T := T_B) (N := 10) hx hb hw i_B t_B ty_B nm_B hown hK hP (hD _ _ _ _ _) hS 7 rfl rfl 8 (by decide) (hw _ m_28) (fun _ h9 => h9) rfl (by decide +kernel) rfl rfl (Nat.le_of_ble_eq_true rfl) d_B_narrow_115 (fun H locs hP _ hS => ?_)
          replace hP : va_P (dC, dI) classes (wS ad cI S k0 k1 (v - a) k3) H := hP
          refine lv_aload_n hx hb d_B_narrow_118 rfl (lv_at hl 3 rfl) ?_
          refine lv_lload hx hb d_B_narrow_119 (lv_at hl 2 rfl) ?_
          refine va_put (D := (dC, dI)) (ci := 0) (v := .long (zl (zabs b))) (ty := .long) (C := R_B) (T := T_B) (N := 10) hx hb hw i_B t_B ty_B nm_B hown hK hP (hD _ _ _ _ _) hS 7 rfl rfl 9 (by decide) (hw _ m_29) (fun _ h9 => h9) rfl (by decide +kernel) rfl rfl (Nat.le_of_ble_eq_true rfl) d_B_narrow_121 (fun H locs hP _ hS => ?_)
          replace hP : va_P (dC, dI) classes (wS ad cI S k0 k1 (v - a) (zabs b)) H := hP
          refine lv_aload_n hx hb d_B_narrow_124 rfl (lv_at hl 3 rfl) ?_
          refine va_get (D := (dC, dI)) (ci := 0) (v := .long (zl k0)) (C := R_B) (T := T_B) (N := 10) hx hb hw i_B hown hK hP 7 rfl rfl 6 (by decide) (hw _ m_26) (fun _ h9 => h9) rfl d_B_narrow_125 ?_
          refine lv_aload_n hx hb d_B_narrow_128 rfl (lv_at hl 3 rfl) ?_
          refine va_get (D := (dC, dI)) (ci := 0) (v := .long (zl (zabs b))) (C := R_B) (T := T_B) (N := 10) hx hb hw i_B hown hK hP 7 rfl rfl 9 (by decide) (hw _ m_29) (fun _ h9 => h9) rfl d_B_narrow_129 ?_
          refine zr_lmul hx hb d_B_narrow_132 ?_
          refine lv_aload_n hx hb d_B_narrow_133 rfl (lv_at hl 3 rfl) ?_
          refine va_get (D := (dC, dI)) (ci := 0) (v := .long (zl (v - a))) (C := R_B) (T := T_B) (N := 10) hx hb hw i_B hown hK hP 7 rfl rfl 8 (by decide) (hw _ m_28) (fun _ h9 => h9) rfl d_B_narrow_134 ?_
          refine lv_aload_n hx hb d_B_narrow_137 rfl (lv_at hl 3 rfl) ?_
          refine va_get (D := (dC, dI)) (ci := 0) (v := .long (zl k1)) (C := R_B) (T := T_B) (N := 10) hx hb hw i_B hown hK hP 7 rfl rfl 7 (by decide) (hw _ m_27) (fun _ h9 => h9) rfl d_B_narrow_138 ?_
          have b_38 : zB (-900000000) 900000000 ((v - a) * k1) := zB.w (zb_mul (A := 30000) (B := 30000) (zB.w b_28 (by decide) (by decide)) (zB.w hb_k1 (by decide) (by decide))) (by decide) (by decide)
          refine zr_lmul hx hb d_B_narrow_141 ?_
          refine zr_lcmp_gt (tgt := 150) hx hb (zB.L b_30 (by decide) (by decide)) (zB.L b_38 (by decide) (by decide)) d_B_narrow_142 d_B_narrow_143 (by decide) (fun c_39 => ?_) (fun c_39 => ?_)
          · replace hq := (if_pos c_39).symm.trans hq
            refine lv_iconst (v := zi 0) hx hb d_B_narrow_150 rfl ?_
            subst hq
            exact zw_z hx hb hr hlocks (zB.w (zb_c 0) (by decide) (by decide)) rfl hP hS d_B_narrow_151
          · replace hq := (if_neg c_39).symm.trans hq
            refine lv_iconst (v := zi 1) hx hb d_B_narrow_146 rfl ?_
            refine lv_goto (tgt := 151) hx hb d_B_narrow_147 (by decide) ?_
            subst hq
            exact zw_z hx hb hr hlocks (zB.w (zb_c 1) (by decide) (by decide)) rfl hP hS d_B_narrow_151
      · replace hq := (if_pos c_31).symm.trans hq
        refine lv_aload_n hx hb d_B_narrow_82 rfl (lv_at hl 3 rfl) ?_
        refine lv_lload hx hb d_B_narrow_83 (lv_at hl 1 rfl) ?_
        refine va_put (D := (dC, dI)) (ci := 0) (v := .long (zl (d - a))) (ty := .long) (C := R_B) (T := T_B) (N := 10) hx hb hw i_B t_B ty_B nm_B hown hK hP (hD _ _ _ _ _) hS 7 rfl rfl 6 (by decide) (hw _ m_26) (fun _ h9 => h9) rfl (by decide +kernel) rfl rfl (Nat.le_of_ble_eq_true rfl) d_B_narrow_85 (fun H locs hP _ hS => ?_)
        replace hP : va_P (dC, dI) classes (wS ad cI S (d - a) k1 k2 k3) H := hP
        refine lv_aload_n hx hb d_B_narrow_88 rfl (lv_at hl 3 rfl) ?_
        refine lv_lload hx hb d_B_narrow_89 (lv_at hl 2 rfl) ?_
        refine va_put (D := (dC, dI)) (ci := 0) (v := .long (zl (zabs b))) (ty := .long) (C := R_B) (T := T_B) (N := 10) hx hb hw i_B t_B ty_B nm_B hown hK hP (hD _ _ _ _ _) hS 7 rfl rfl 7 (by decide) (hw _ m_27) (fun _ h9 => h9) rfl (by decide +kernel) rfl rfl (Nat.le_of_ble_eq_true rfl) d_B_narrow_91 (fun H locs hP _ hS => ?_)
        replace hP : va_P (dC, dI) classes (wS ad cI S (d - a) (zabs b) k2 k3) H := hP
        refine lv_lload hx hb d_B_narrow_94 (lv_at hl 0 rfl) ?_
        refine lv_aload_n hx hb d_B_narrow_96 rfl (lv_at hl 3 rfl) ?_
        refine va_get (D := (dC, dI)) (ci := 0) (v := .long (zl k3)) (C := R_B) (T := T_B) (N := 10) hx hb hw i_B hown hK hP 7 rfl rfl 9 (by decide) (hw _ m_29) (fun _ h9 => h9) rfl d_B_narrow_97 ?_
        have b_40 : zB (-900000000) 900000000 ((v - a) * k3) := zB.w (zb_mul (A := 30000) (B := 30000) (zB.w b_28 (by decide) (by decide)) (zB.w hb_k3 (by decide) (by decide))) (by decide) (by decide)
        refine zr_lmul hx hb d_B_narrow_100 ?_
        refine lv_aload_n hx hb d_B_narrow_101 rfl (lv_at hl 3 rfl) ?_
        refine va_get (D := (dC, dI)) (ci := 0) (v := .long (zl k2)) (C := R_B) (T := T_B) (N := 10) hx hb hw i_B hown hK hP 7 rfl rfl 8 (by decide) (hw _ m_28) (fun _ h9 => h9) rfl d_B_narrow_102 ?_
        refine lv_lload hx hb d_B_narrow_105 (lv_at hl 2 rfl) ?_
        have b_41 : zB (-900000000) 900000000 (k2 * (zabs b)) := zB.w (zb_mul (A := 30000) (B := 30000) (zB.w hb_k2 (by decide) (by decide)) (zB.w b_2 (by decide) (by decide))) (by decide) (by decide)
        refine zr_lmul hx hb d_B_narrow_107 ?_
        refine zr_lcmp_ge (tgt := 124) hx hb (zB.L b_40 (by decide) (by decide)) (zB.L b_41 (by decide) (by decide)) d_B_narrow_108 d_B_narrow_109 (by decide) (fun c_42 => ?_) (fun c_42 => ?_)
        · replace hq := (if_neg c_42).symm.trans hq
          refine lv_aload_n hx hb d_B_narrow_124 rfl (lv_at hl 3 rfl) ?_
          refine va_get (D := (dC, dI)) (ci := 0) (v := .long (zl (d - a))) (C := R_B) (T := T_B) (N := 10) hx hb hw i_B hown hK hP 7 rfl rfl 6 (by decide) (hw _ m_26) (fun _ h9 => h9) rfl d_B_narrow_125 ?_
          refine lv_aload_n hx hb d_B_narrow_128 rfl (lv_at hl 3 rfl) ?_
          refine va_get (D := (dC, dI)) (ci := 0) (v := .long (zl k3)) (C := R_B) (T := T_B) (N := 10) hx hb hw i_B hown hK hP 7 rfl rfl 9 (by decide) (hw _ m_29) (fun _ h9 => h9) rfl d_B_narrow_129 ?_
          have b_43 : zB (-900000000) 900000000 ((d - a) * k3) := zB.w (zb_mul (A := 30000) (B := 30000) (zB.w b_27 (by decide) (by decide)) (zB.w hb_k3 (by decide) (by decide))) (by decide) (by decide)
          refine zr_lmul hx hb d_B_narrow_132 ?_
          refine lv_aload_n hx hb d_B_narrow_133 rfl (lv_at hl 3 rfl) ?_
          refine va_get (D := (dC, dI)) (ci := 0) (v := .long (zl k2)) (C := R_B) (T := T_B) (N := 10) hx hb hw i_B hown hK hP 7 rfl rfl 8 (by decide) (hw _ m_28) (fun _ h9 => h9) rfl d_B_narrow_134 ?_
          refine lv_aload_n hx hb d_B_narrow_137 rfl (lv_at hl 3 rfl) ?_
          refine va_get (D := (dC, dI)) (ci := 0) (v := .long (zl (zabs b))) (C := R_B) (T := T_B) (N := 10) hx hb hw i_B hown hK hP 7 rfl rfl 7 (by decide) (hw _ m_27) (fun _ h9 => h9) rfl d_B_narrow_138 ?_
          refine zr_lmul hx hb d_B_narrow_141 ?_
          refine zr_lcmp_gt (tgt := 150) hx hb (zB.L b_43 (by decide) (by decide)) (zB.L b_41 (by decide) (by decide)) d_B_narrow_142 d_B_narrow_143 (by decide) (fun c_44 => ?_) (fun c_44 => ?_)
          · replace hq := (if_pos c_44).symm.trans hq
            refine lv_iconst (v := zi 0) hx hb d_B_narrow_150 rfl ?_
            subst hq
            exact zw_z hx hb hr hlocks (zB.w (zb_c 0) (by decide) (by decide)) rfl hP hS d_B_narrow_151
          · replace hq := (if_neg c_44).symm.trans hq
            refine lv_iconst (v := zi 1) hx hb d_B_narrow_146 rfl ?_
            refine lv_goto (tgt := 151) hx hb d_B_narrow_147 (by decide) ?_
            subst hq
            exact zw_z hx hb hr hlocks (zB.w (zb_c 1) (by decide) (by decide)) rfl hP hS d_B_narrow_151
        · replace hq := (if_pos c_42).symm.trans hq
          refine lv_aload_n hx hb d_B_narrow_112 rfl (lv_at hl 3 rfl) ?_
          refine lv_lload hx hb d_B_narrow_113 (lv_at hl 0 rfl) ?_
          refine va_put (D := (dC, dI)) (ci := 0) (v := .long (zl (v - a))) (ty := .long) (C := R_B) (T := T_B) (N := 10) hx hb hw i_B t_B ty_B nm_B hown hK hP (hD _ _ _ _ _) hS 7 rfl rfl 8 (by decide) (hw _ m_28) (fun _ h9 => h9) rfl (by decide +kernel) rfl rfl (Nat.le_of_ble_eq_true rfl) d_B_narrow_115 (fun H locs hP _ hS => ?_)
          replace hP : va_P (dC, dI) classes (wS ad cI S (d - a) (zabs b) (v - a) k3) H := hP
          refine lv_aload_n hx hb d_B_narrow_118 rfl (lv_at hl 3 rfl) ?_
          refine lv_lload hx hb d_B_narrow_119 (lv_at hl 2 rfl) ?_
          refine va_put (D := (dC, dI)) (ci := 0) (v := .long (zl (zabs b))) (ty := .long) (C := R_B) (T := T_B) (N := 10) hx hb hw i_B t_B ty_B nm_B hown hK hP (hD _ _ _ _ _) hS 7 rfl rfl 9 (by decide) (hw _ m_29) (fun _ h9 => h9) rfl (by decide +kernel) rfl rfl (Nat.le_of_ble_eq_true rfl) d_B_narrow_121 (fun H locs hP _ hS => ?_)
          replace hP : va_P (dC, dI) classes (wS ad cI S (d - a) (zabs b) (v - a) (zabs b)) H := hP
          refine lv_aload_n hx hb d_B_narrow_124 rfl (lv_at hl 3 rfl) ?_
          refine va_get (D := (dC, dI)) (ci := 0) (v := .long (zl (d - a))) (C := R_B) (T := T_B) (N := 10) hx hb hw i_B hown hK hP 7 rfl rfl 6 (by decide) (hw _ m_26) (fun _ h9 => h9) rfl d_B_narrow_125 ?_
          refine lv_aload_n hx hb d_B_narrow_128 rfl (lv_at hl 3 rfl) ?_
          refine va_get (D := (dC, dI)) (ci := 0) (v := .long (zl (zabs b))) (C := R_B) (T := T_B) (N := 10) hx hb hw i_B hown hK hP 7 rfl rfl 9 (by decide) (hw _ m_29) (fun _ h9 => h9) rfl d_B_narrow_129 ?_
          have b_45 : zB (-900000000) 900000000 ((d - a) * (zabs b)) := zB.w (zb_mul (A := 30000) (B := 30000) (zB.w b_27 (by decide) (by decide)) (zB.w b_2 (by decide) (by decide))) (by decide) (by decide)
          refine zr_lmul hx hb d_B_narrow_132 ?_
          refine lv_aload_n hx hb d_B_narrow_133 rfl (lv_at hl 3 rfl) ?_
          refine va_get (D := (dC, dI)) (ci := 0) (v := .long (zl (v - a))) (C := R_B) (T := T_B) (N := 10) hx hb hw i_B hown hK hP 7 rfl rfl 8 (by decide) (hw _ m_28) (fun _ h9 => h9) rfl d_B_narrow_134 ?_
          refine lv_aload_n hx hb d_B_narrow_137 rfl (lv_at hl 3 rfl) ?_
          refine va_get (D := (dC, dI)) (ci := 0) (v := .long (zl (zabs b))) (C := R_B) (T := T_B) (N := 10) hx hb hw i_B hown hK hP 7 rfl rfl 7 (by decide) (hw _ m_27) (fun _ h9 => h9) rfl d_B_narrow_138 ?_
          have b_46 : zB (-900000000) 900000000 ((v - a) * (zabs b)) := zB.w (zb_mul (A := 30000) (B := 30000) (zB.w b_28 (by decide) (by decide)) (zB.w b_2 (by decide) (by decide))) (by decide) (by decide)
          refine zr_lmul hx hb d_B_narrow_141 ?_
          refine zr_lcmp_gt (tgt := 150) hx hb (zB.L b_45 (by decide) (by decide)) (zB.L b_46 (by decide) (by decide)) d_B_narrow_142 d_B_narrow_143 (by decide) (fun c_47 => ?_) (fun c_47 => ?_)
          · replace hq := (if_pos c_47).symm.trans hq
            refine lv_iconst (v := zi 0) hx hb d_B_narrow_150 rfl ?_
            subst hq
            exact zw_z hx hb hr hlocks (zB.w (zb_c 0) (by decide) (by decide)) rfl hP hS d_B_narrow_151
          · replace hq := (if_neg c_47).symm.trans hq
            refine lv_iconst (v := zi 1) hx hb d_B_narrow_146 rfl ?_
            refine lv_goto (tgt := 151) hx hb d_B_narrow_147 (by decide) ?_
            subst hq
            exact zw_z hx hb hr hlocks (zB.w (zb_c 1) (by decide) (by decide)) rfl hP hS d_B_narrow_151
  · replace hq := (if_pos c_1).symm.trans hq
    have r_48 : zB 0 0 b := ⟨(Int.le_of_eq c_1.symm), (Int.le_of_eq c_1)⟩
    refine lv_iload_n hx hb d_B_narrow_4 rfl (lv_at hl 3 rfl) ?_
    refine lv_iload_n hx hb d_B_narrow_5 rfl (lv_at hl 1 rfl) ?_
    refine zr_icmp_gt (tgt := 19) hx hb (zB.I hb_d (by decide) (by decide)) (zB.I hb_a (by decide) (by decide)) d_B_narrow_6 (by decide) (fun c_49 => ?_) (fun c_49 => ?_)
    · replace hq := (if_pos c_49).symm.trans hq
      refine lv_iconst (v := zi 0) hx hb d_B_narrow_19 rfl ?_
      subst hq
      exact zw_z hx hb hr hlocks (zB.w (zb_c 0) (by decide) (by decide)) rfl hP hS d_B_narrow_20
    · replace hq := (if_neg c_49).symm.trans hq
      refine lv_iload_n hx hb d_B_narrow_9 rfl (lv_at hl 1 rfl) ?_
      refine lv_iload hx hb d_B_narrow_10 (lv_at hl 4 rfl) ?_
      refine zr_icmp_gt (tgt := 19) hx hb (zB.I hb_a (by decide) (by decide)) (zB.I hb_v (by decide) (by decide)) d_B_narrow_12 (by decide) (fun c_50 => ?_) (fun c_50 => ?_)
      · replace hq := (if_pos c_50).symm.trans hq
        refine lv_iconst (v := zi 0) hx hb d_B_narrow_19 rfl ?_
        subst hq
        exact zw_z hx hb hr hlocks (zB.w (zb_c 0) (by decide) (by decide)) rfl hP hS d_B_narrow_20
      · replace hq := (if_neg c_50).symm.trans hq
        refine lv_iconst (v := zi 1) hx hb d_B_narrow_15 rfl ?_
        refine lv_goto (tgt := 20) hx hb d_B_narrow_16 (by decide) ?_
        subst hq
        exact zw_z hx hb hr hlocks (zB.w (zb_c 1) (by decide) (by decide)) rfl hP hS d_B_narrow_20
def f_B_dipsBelow (a b d : Int) (k0 k1 k2 k3 : Int) : Int := if (((k1 - k0) * b) + (k0 * d)) < (a * k1) then (1) else (if (((k3 - k2) * b) + (k2 * d)) < (a * k3) then (1) else (0))
theorem bb_B_dipsBelow (a b d : Int) (k0 k1 k2 k3 : Int) : zB 0 1 (f_B_dipsBelow a b d k0 k1 k2 k3) := by
  unfold f_B_dipsBelow
  repeat' split
  all_goals first | exact ⟨by decide, by decide⟩ 
set_option maxHeartbeats 4000000 in
set_option maxRecDepth 100000 in
theorem k_B_dipsBelow (l : Launch) (dC : Nat → ClassId) (dI : Nat → Nat → Nat) (ad : Nat → Nat) (cI : ClassId) (S : Nat → Int → Int) (k0 k1 k2 k3 : Int) (hI : iS S) (hb_k0 : zB (-30000) 30000 k0) (hb_k1 : zB (-30000) 30000 k1) (hb_k2 : zB (-30000) 30000 k2) (hb_k3 : zB (-30000) 30000 k3) (a b d : Int) (hb_a : zB (-100000) 100000 a) (hb_b : zB (-101000) 101000 b) (hb_d : zB (-101000) 101000 d) : Met l y_B_dipsBelow (Cond.code y_B_dipsBelow c_B_dipsBelow 11 (some .boolean) :: zT) { frames := 0, cells := 0, slots := 0, locals := 0 } (va_Pc ([.ref (ad 7), .long (zl a), .long (zl b), .long (zl d)] : List Value) (zWS dC dI ad cI S k0 k1 k2 k3)) (zR (.int (zi (f_B_dipsBelow a b d k0 k1 k2 k3)))) 0 0 (fun _ => False) := by
  refine zh (cc := c_B_dipsBelow) (C := R_B) (by decide) rfl rfl (Nat.le_of_ble_eq_true rfl) ?_
  intro p e s m below meth c ls hx hb hr hlocks hml hown hname hts hl hB
  have hw : ∀ w9 ∈ zT, w9.before ([.ref (ad 7), .long (zl a), .long (zl b), .long (zl d)] : List Value).toArray s = true := fun w9 h => hts w9 (List.mem_cons_of_mem _ h)
  obtain ⟨hP, hK, hN⟩ := hB
  obtain ⟨hn0, hn1⟩ := id (iS_s0 hI)
  obtain ⟨hz0, hz1⟩ := id (iS_s6 hI)
  obtain ⟨hl_a, hh_a⟩ := id hb_a
  obtain ⟨hl_b, hh_b⟩ := id hb_b
  obtain ⟨hl_d, hh_d⟩ := id hb_d
  generalize hq : f_B_dipsBelow a b d k0 k1 k2 k3 = r
  unfold f_B_dipsBelow at hq
  replace hl : lv_has ls 11 [(0, .ref (ad 7)), (1, .long (zl a)), (3, .long (zl b)), (5, .long (zl d))] := hl
  refine lv_aload_n hx hb d_B_dipsBelow_0 rfl (lv_at hl 0 rfl) ?_
  refine va_get (D := (dC, dI)) (ci := 0) (v := .long (zl k1)) (C := R_B) (T := T_B) (N := 10) hx hb hw i_B hown hK hP 7 rfl rfl 7 (by decide) (hw _ m_27) (fun _ h9 => h9) rfl d_B_dipsBelow_1 ?_
  refine lv_aload_n hx hb d_B_dipsBelow_4 rfl (lv_at hl 0 rfl) ?_
  refine va_get (D := (dC, dI)) (ci := 0) (v := .long (zl k0)) (C := R_B) (T := T_B) (N := 10) hx hb hw i_B hown hK hP 7 rfl rfl 6 (by decide) (hw _ m_26) (fun _ h9 => h9) rfl d_B_dipsBelow_5 ?_
  have b_1 : zB (-60000) 60000 (k1 - k0) := zB.w (zb_sub hb_k1 hb_k0) (by decide) (by decide)
  refine zr_lsub hx hb d_B_dipsBelow_8 ?_
  refine lv_lload_n hx hb d_B_dipsBelow_9 rfl (lv_at hl 2 rfl) ?_
  have b_2 : zB (-6060000000) 6060000000 ((k1 - k0) * b) := zB.w (zb_mul (A := 60000) (B := 101000) (zB.w b_1 (by decide) (by decide)) (zB.w hb_b (by decide) (by decide))) (by decide) (by decide)
  refine zr_lmul hx hb d_B_dipsBelow_10 ?_
  refine lv_aload_n hx hb d_B_dipsBelow_11 rfl (lv_at hl 0 rfl) ?_
  refine va_get (D := (dC, dI)) (ci := 0) (v := .long (zl k0)) (C := R_B) (T := T_B) (N := 10) hx hb hw i_B hown hK hP 7 rfl rfl 6 (by decide) (hw _ m_26) (fun _ h9 => h9) rfl d_B_dipsBelow_12 ?_
  refine lv_lload hx hb d_B_dipsBelow_15 (lv_at hl 3 rfl) ?_
  have b_3 : zB (-3030000000) 3030000000 (k0 * d) := zB.w (zb_mul (A := 30000) (B := 101000) (zB.w hb_k0 (by decide) (by decide)) (zB.w hb_d (by decide) (by decide))) (by decide) (by decide)
  refine zr_lmul hx hb d_B_dipsBelow_17 ?_
  have b_4 : zB (-9090000000) 9090000000 (((k1 - k0) * b) + (k0 * d)) := zB.w (zb_add b_2 b_3) (by decide) (by decide)
  refine zr_ladd hx hb d_B_dipsBelow_18 ?_
  refine lv_lstore (lv' := [(7, .long (zl (((k1 - k0) * b) + (k0 * d)))), (0, .ref (ad 7)), (1, .long (zl a)), (3, .long (zl b)), (5, .long (zl d))]) hx hb d_B_dipsBelow_19 hl (by decide) rfl (fun ls hl => ?_)
  refine lv_aload_n hx hb d_B_dipsBelow_21 rfl (lv_at hl 1 rfl) ?_
  refine va_get (D := (dC, dI)) (ci := 0) (v := .long (zl k3)) (C := R_B) (T := T_B) (N := 10) hx hb hw i_B hown hK hP 7 rfl rfl 9 (by decide) (hw _ m_29) (fun _ h9 => h9) rfl d_B_dipsBelow_22 ?_
  refine lv_aload_n hx hb d_B_dipsBelow_25 rfl (lv_at hl 1 rfl) ?_
  refine va_get (D := (dC, dI)) (ci := 0) (v := .long (zl k2)) (C := R_B) (T := T_B) (N := 10) hx hb hw i_B hown hK hP 7 rfl rfl 8 (by decide) (hw _ m_28) (fun _ h9 => h9) rfl d_B_dipsBelow_26 ?_
  have b_5 : zB (-60000) 60000 (k3 - k2) := zB.w (zb_sub hb_k3 hb_k2) (by decide) (by decide)
  refine zr_lsub hx hb d_B_dipsBelow_29 ?_
  refine lv_lload_n hx hb d_B_dipsBelow_30 rfl (lv_at hl 3 rfl) ?_
  have b_6 : zB (-6060000000) 6060000000 ((k3 - k2) * b) := zB.w (zb_mul (A := 60000) (B := 101000) (zB.w b_5 (by decide) (by decide)) (zB.w hb_b (by decide) (by decide))) (by decide) (by decide)
  refine zr_lmul hx hb d_B_dipsBelow_31 ?_
  refine lv_aload_n hx hb d_B_dipsBelow_32 rfl (lv_at hl 1 rfl) ?_
  refine va_get (D := (dC, dI)) (ci := 0) (v := .long (zl k2)) (C := R_B) (T := T_B) (N := 10) hx hb hw i_B hown hK hP 7 rfl rfl 8 (by decide) (hw _ m_28) (fun _ h9 => h9) rfl d_B_dipsBelow_33 ?_
  refine lv_lload hx hb d_B_dipsBelow_36 (lv_at hl 4 rfl) ?_
  have b_7 : zB (-3030000000) 3030000000 (k2 * d) := zB.w (zb_mul (A := 30000) (B := 101000) (zB.w hb_k2 (by decide) (by decide)) (zB.w hb_d (by decide) (by decide))) (by decide) (by decide)
  refine zr_lmul hx hb d_B_dipsBelow_38 ?_
  have b_8 : zB (-9090000000) 9090000000 (((k3 - k2) * b) + (k2 * d)) := zB.w (zb_add b_6 b_7) (by decide) (by decide)
  refine zr_ladd hx hb d_B_dipsBelow_39 ?_
  refine lv_lstore (lv' := [(9, .long (zl (((k3 - k2) * b) + (k2 * d)))), (7, .long (zl (((k1 - k0) * b) + (k0 * d)))), (0, .ref (ad 7)), (1, .long (zl a)), (3, .long (zl b)), (5, .long (zl d))]) hx hb d_B_dipsBelow_40 hl (by decide) rfl (fun ls hl => ?_)
  refine lv_lload hx hb d_B_dipsBelow_42 (lv_at hl 1 rfl) ?_
  refine lv_lload_n hx hb d_B_dipsBelow_44 rfl (lv_at hl 3 rfl) ?_
  refine lv_aload_n hx hb d_B_dipsBelow_45 rfl (lv_at hl 2 rfl) ?_
  refine va_get (D := (dC, dI)) (ci := 0) (v := .long (zl k1)) (C := R_B) (T := T_B) (N := 10) hx hb hw i_B hown hK hP 7 rfl rfl 7 (by decide) (hw _ m_27) (fun _ h9 => h9) rfl d_B_dipsBelow_46 ?_
  have b_9 : zB (-3000000000) 3000000000 (a * k1) := zB.w (zb_mul (A := 100000) (B := 30000) (zB.w hb_a (by decide) (by decide)) (zB.w hb_k1 (by decide) (by decide))) (by decide) (by decide)
  refine zr_lmul hx hb d_B_dipsBelow_49 ?_
  refine zr_lcmp_lt (tgt := 66) hx hb (zB.L b_4 (by decide) (by decide)) (zB.L b_9 (by decide) (by decide)) d_B_dipsBelow_50 d_B_dipsBelow_51 (by decide) (fun c_10 => ?_) (fun c_10 => ?_)
  · replace hq := (if_pos c_10).symm.trans hq
    refine lv_iconst (v := zi 1) hx hb d_B_dipsBelow_66 rfl ?_
    refine lv_goto (tgt := 71) hx hb d_B_dipsBelow_67 (by decide) ?_
    exact ze_z hx hb hr hlocks (zB.w (zb_c 1) (by decide) (by decide)) hq d_B_dipsBelow_71
  · replace hq := (if_neg c_10).symm.trans hq
    refine lv_lload hx hb d_B_dipsBelow_54 (lv_at hl 0 rfl) ?_
    refine lv_lload_n hx hb d_B_dipsBelow_56 rfl (lv_at hl 3 rfl) ?_
    refine lv_aload_n hx hb d_B_dipsBelow_57 rfl (lv_at hl 2 rfl) ?_
    refine va_get (D := (dC, dI)) (ci := 0) (v := .long (zl k3)) (C := R_B) (T := T_B) (N := 10) hx hb hw i_B hown hK hP 7 rfl rfl 9 (by decide) (hw _ m_29) (fun _ h9 => h9) rfl d_B_dipsBelow_58 ?_
    have b_11 : zB (-3000000000) 3000000000 (a * k3) := zB.w (zb_mul (A := 100000) (B := 30000) (zB.w hb_a (by decide) (by decide)) (zB.w hb_k3 (by decide) (by decide))) (by decide) (by decide)
    refine zr_lmul hx hb d_B_dipsBelow_61 ?_
    refine zr_lcmp_ge (tgt := 70) hx hb (zB.L b_8 (by decide) (by decide)) (zB.L b_11 (by decide) (by decide)) d_B_dipsBelow_62 d_B_dipsBelow_63 (by decide) (fun c_12 => ?_) (fun c_12 => ?_)
    · replace hq := (if_neg c_12).symm.trans hq
      refine lv_iconst (v := zi 0) hx hb d_B_dipsBelow_70 rfl ?_
      exact ze_z hx hb hr hlocks (zB.w (zb_c 0) (by decide) (by decide)) hq d_B_dipsBelow_71
    · replace hq := (if_pos c_12).symm.trans hq
      refine lv_iconst (v := zi 1) hx hb d_B_dipsBelow_66 rfl ?_
      refine lv_goto (tgt := 71) hx hb d_B_dipsBelow_67 (by decide) ?_
      exact ze_z hx hb hr hlocks (zB.w (zb_c 1) (by decide) (by decide)) hq d_B_dipsBelow_71
def f_B_firstAcross_l (S : Nat → Int → Int) (a : Int) (b : Int) (d : Int) (v : Int) (w : Int) (x : Int) (z : Int) : Nat → Int → Int
  | 0, _ => 0
  | k + 1, i => if i < (S 11 6) then (if ((f_B_narrow a (v - a) (S 6 i) (S 8 i) 0 1 1 1).1) = 0 then (f_B_firstAcross_l S a b d v w x z k (i + 1)) else (if ((f_B_narrow b (w - b) (S 7 i) (S 9 i) ((f_B_narrow a (v - a) (S 6 i) (S 8 i) 0 1 1 1).2.1) ((f_B_narrow a (v - a) (S 6 i) (S 8 i) 0 1 1 1).2.2.1) ((f_B_narrow a (v - a) (S 6 i) (S 8 i) 0 1 1 1).2.2.2.1) ((f_B_narrow a (v - a) (S 6 i) (S 8 i) 0 1 1 1).2.2.2.2)).1) = 0 then (f_B_firstAcross_l S a b d v w x z k (i + 1)) else (if (f_B_dipsBelow (S 10 i) d x ((f_B_narrow b (w - b) (S 7 i) (S 9 i) ((f_B_narrow a (v - a) (S 6 i) (S 8 i) 0 1 1 1).2.1) ((f_B_narrow a (v - a) (S 6 i) (S 8 i) 0 1 1 1).2.2.1) ((f_B_narrow a (v - a) (S 6 i) (S 8 i) 0 1 1 1).2.2.2.1) ((f_B_narrow a (v - a) (S 6 i) (S 8 i) 0 1 1 1).2.2.2.2)).2.1) ((f_B_narrow b (w - b) (S 7 i) (S 9 i) ((f_B_narrow a (v - a) (S 6 i) (S 8 i) 0 1 1 1).2.1) ((f_B_narrow a (v - a) (S 6 i) (S 8 i) 0 1 1 1).2.2.1) ((f_B_narrow a (v - a) (S 6 i) (S 8 i) 0 1 1 1).2.2.2.1) ((f_B_narrow a (v - a) (S 6 i) (S 8 i) 0 1 1 1).2.2.2.2)).2.2.1) ((f_B_narrow b (w - b) (S 7 i) (S 9 i) ((f_B_narrow a (v - a) (S 6 i) (S 8 i) 0 1 1 1).2.1) ((f_B_narrow a (v - a) (S 6 i) (S 8 i) 0 1 1 1).2.2.1) ((f_B_narrow a (v - a) (S 6 i) (S 8 i) 0 1 1 1).2.2.2.1) ((f_B_narrow a (v - a) (S 6 i) (S 8 i) 0 1 1 1).2.2.2.2)).2.2.2.1) ((f_B_narrow b (w - b) (S 7 i) (S 9 i) ((f_B_narrow a (v - a) (S 6 i) (S 8 i) 0 1 1 1).2.1) ((f_B_narrow a (v - a) (S 6 i) (S 8 i) 0 1 1 1).2.2.1) ((f_B_narrow a (v - a) (S 6 i) (S 8 i) 0 1 1 1).2.2.2.1) ((f_B_narrow a (v - a) (S 6 i) (S 8 i) 0 1 1 1).2.2.2.2)).2.2.2.2)) = 0 then (f_B_firstAcross_l S a b d v w x z k (i + 1)) else (i)))) else (z)
theorem f_B_firstAcross_l_s (S : Nat → Int → Int) (a : Int) (b : Int) (d : Int) (v : Int) (w : Int) (x : Int) (z : Int) (k : Nat) (i : Int) : f_B_firstAcross_l S a b d v w x z (k + 1) i = (if i < (S 11 6) then (if ((f_B_narrow a (v - a) (S 6 i) (S 8 i) 0 1 1 1).1) = 0 then (f_B_firstAcross_l S a b d v w x z k (i + 1)) else (if ((f_B_narrow b (w - b) (S 7 i) (S 9 i) ((f_B_narrow a (v - a) (S 6 i) (S 8 i) 0 1 1 1).2.1) ((f_B_narrow a (v - a) (S 6 i) (S 8 i) 0 1 1 1).2.2.1) ((f_B_narrow a (v - a) (S 6 i) (S 8 i) 0 1 1 1).2.2.2.1) ((f_B_narrow a (v - a) (S 6 i) (S 8 i) 0 1 1 1).2.2.2.2)).1) = 0 then (f_B_firstAcross_l S a b d v w x z k (i + 1)) else (if (f_B_dipsBelow (S 10 i) d x ((f_B_narrow b (w - b) (S 7 i) (S 9 i) ((f_B_narrow a (v - a) (S 6 i) (S 8 i) 0 1 1 1).2.1) ((f_B_narrow a (v - a) (S 6 i) (S 8 i) 0 1 1 1).2.2.1) ((f_B_narrow a (v - a) (S 6 i) (S 8 i) 0 1 1 1).2.2.2.1) ((f_B_narrow a (v - a) (S 6 i) (S 8 i) 0 1 1 1).2.2.2.2)).2.1) ((f_B_narrow b (w - b) (S 7 i) (S 9 i) ((f_B_narrow a (v - a) (S 6 i) (S 8 i) 0 1 1 1).2.1) ((f_B_narrow a (v - a) (S 6 i) (S 8 i) 0 1 1 1).2.2.1) ((f_B_narrow a (v - a) (S 6 i) (S 8 i) 0 1 1 1).2.2.2.1) ((f_B_narrow a (v - a) (S 6 i) (S 8 i) 0 1 1 1).2.2.2.2)).2.2.1) ((f_B_narrow b (w - b) (S 7 i) (S 9 i) ((f_B_narrow a (v - a) (S 6 i) (S 8 i) 0 1 1 1).2.1) ((f_B_narrow a (v - a) (S 6 i) (S 8 i) 0 1 1 1).2.2.1) ((f_B_narrow a (v - a) (S 6 i) (S 8 i) 0 1 1 1).2.2.2.1) ((f_B_narrow a (v - a) (S 6 i) (S 8 i) 0 1 1 1).2.2.2.2)).2.2.2.1) ((f_B_narrow b (w - b) (S 7 i) (S 9 i) ((f_B_narrow a (v - a) (S 6 i) (S 8 i) 0 1 1 1).2.1) ((f_B_narrow a (v - a) (S 6 i) (S 8 i) 0 1 1 1).2.2.1) ((f_B_narrow a (v - a) (S 6 i) (S 8 i) 0 1 1 1).2.2.2.1) ((f_B_narrow a (v - a) (S 6 i) (S 8 i) 0 1 1 1).2.2.2.2)).2.2.2.2)) = 0 then (f_B_firstAcross_l S a b d v w x z k (i + 1)) else (i)))) else (z)) := rfl
def f_B_firstAcross (S : Nat → Int → Int) (a b d v w x : Int) : Int := f_B_firstAcross_l S a b d v w x (-1) 9 0
theorem br_B_firstAcross (S : Nat → Int → Int) (a b d v w x : Int) (hI : iS S) (_ : zB (-15000) 15000 a) (_ : zB (-15000) 15000 b) (_ : zB (-101000) 101000 d) (_ : zB (-15000) 15000 v) (_ : zB (-15000) 15000 w) (_ : zB (-101000) 101000 x) : zB (-1) 8 (f_B_firstAcross S a b d v w x) := by
  have hz := (iS_s6 hI).2
  have key : ∀ (k : Nat) (i : Int), zB 0 8 i → zB (-1) 8 (f_B_firstAcross_l S a b d v w x (-1) k i) := by
    intro k
    induction k with
    | zero => intro i h; show zB (-1) 8 0; exact ⟨by decide, by decide⟩
    | succ k ih =>
      intro i h
      obtain ⟨h1, h2⟩ := id h
      rw [f_B_firstAcross_l_s]
      repeat' split
      all_goals first | exact ⟨by decide, by decide⟩ | exact ⟨by omega, by omega⟩ | exact ih _ ⟨by omega, by omega⟩
  exact key _ _ ⟨by decide, by decide⟩
set_option maxHeartbeats 4000000 in
set_option maxRecDepth 100000 in
theorem k_B_firstAcross (l : Launch) (dC : Nat → ClassId) (dI : Nat → Nat → Nat) (ad : Nat → Nat) (cI : ClassId) (S : Nat → Int → Int) (k0 k1 k2 k3 : Int) (hI : iS S) (hj : zJ 13 ad) (hb_k0 : zB (-30000) 30000 k0) (hb_k1 : zB (-30000) 30000 k1) (hb_k2 : zB (-30000) 30000 k2) (hb_k3 : zB (-30000) 30000 k3) (a b d v w x : Int) (hb_a : zB (-15000) 15000 a) (hb_b : zB (-15000) 15000 b) (hb_d : zB (-101000) 101000 d) (hb_v : zB (-15000) 15000 v) (hb_w : zB (-15000) 15000 w) (hb_x : zB (-101000) 101000 x) : Met l y_B_firstAcross (Cond.code y_B_firstAcross c_B_firstAcross 9 (some .int) :: zT) { frames := 2, cells := 0, slots := 0, locals := 43 } (va_Pc ([.ref (ad 7), .int (zi a), .int (zi b), .int (zi d), .int (zi v), .int (zi w), .int (zi x)] : List Value) (zWS dC dI ad cI S k0 k1 k2 k3)) (zQ (some (.int (zi (f_B_firstAcross S a b d v w x)))) (fun H => ∃ k0 k1 k2 k3 : Int, zB (-30000) 30000 k0 ∧ zB (-30000) 30000 k1 ∧ zB (-30000) 30000 k2 ∧ zB (-30000) 30000 k3 ∧ va_P (dC, dI) classes (wS ad cI S k0 k1 k2 k3) H) (zAS ad)) 0 0 (zAS ad) := by
  refine zh (cc := c_B_firstAcross) (C := R_B) (by decide) rfl rfl (Nat.le_of_ble_eq_true rfl) ?_
  intro p e s m below meth c ls hx hb hr hlocks hml hown hname hts hl hB
  have hw : ∀ w9 ∈ zT, w9.before ([.ref (ad 7), .int (zi a), .int (zi b), .int (zi d), .int (zi v), .int (zi w), .int (zi x)] : List Value).toArray s = true := fun w9 h => hts w9 (List.mem_cons_of_mem _ h)
  obtain ⟨hP, hK, hN⟩ := hB
  obtain ⟨hn0, hn1⟩ := id (iS_s0 hI)
  have hD := zDS hj cI
  have hS : va_S (zAS ad) s.heap s.heap [] := va_S.rf
  obtain ⟨hz0, hz1⟩ := id (iS_s6 hI)
  obtain ⟨hl_a, hh_a⟩ := id hb_a
  obtain ⟨hl_b, hh_b⟩ := id hb_b
  obtain ⟨hl_d, hh_d⟩ := id hb_d
  obtain ⟨hl_v, hh_v⟩ := id hb_v
  obtain ⟨hl_w, hh_w⟩ := id hb_w
  obtain ⟨hl_x, hh_x⟩ := id hb_x
  generalize hq : f_B_firstAcross S a b d v w x = r
  unfold f_B_firstAcross at hq
  replace hl : lv_has ls 9 [(0, .ref (ad 7)), (1, .int (zi a)), (2, .int (zi b)), (3, .int (zi d)), (4, .int (zi v)), (5, .int (zi w)), (6, .int (zi x))] := hl
  refine lv_iconst (v := zi 0) hx hb d_B_firstAcross_0 rfl ?_
  refine lv_istore (lv' := [(7, .int (zi 0)), (0, .ref (ad 7)), (1, .int (zi a)), (2, .int (zi b)), (3, .int (zi d)), (4, .int (zi v)), (5, .int (zi w)), (6, .int (zi x))]) hx hb d_B_firstAcross_1 hl (by decide) rfl (fun ls hl => ?_)
  have L_l : ∀ (z : Int), (∀ (ls : Array Slot) (H : Heap) (locs : List Loc) (k0 k1 k2 k3 : Int), zB (-30000) 30000 k0 → zB (-30000) 30000 k1 → zB (-30000) 30000 k2 → zB (-30000) 30000 k3 → va_P (dC, dI) classes (wS ad cI S k0 k1 k2 k3) H → va_S (zAS ad) s.heap H locs → z = r → lv_has ls 9 [(0, .ref (ad 7)), (1, .int (zi a)), (2, .int (zi b)), (3, .int (zi d)), (4, .int (zi v)), (5, .int (zi w)), (6, .int (zi x))] → W p l e { frames := 2, cells := 0, slots := 0, locals := 43 } s m ([.ref (ad 7), .int (zi a), .int (zi b), .int (zi d), .int (zi v), .int (zi w), .int (zi x)] : List Value).toArray below meth c H locs 0 0 (MQ below (zQ (some (.int (zi r))) (fun H => ∃ k0 k1 k2 k3 : Int, zB (-30000) 30000 k0 ∧ zB (-30000) 30000 k1 ∧ zB (-30000) 30000 k2 ∧ zB (-30000) 30000 k3 ∧ va_P (dC, dI) classes (wS ad cI S k0 k1 k2 k3) H) (zAS ad)) ([.ref (ad 7), .int (zi a), .int (zi b), .int (zi d), .int (zi v), .int (zi w), .int (zi x)] : List Value).toArray s 0 0 (zAS ad)) (F0 m 109 ls [])) → ∀ (k : Nat) (i : Int) (ls : Array Slot) (H : Heap) (locs : List Loc) (k0 k1 k2 k3 : Int), zB (-30000) 30000 k0 → zB (-30000) 30000 k1 → zB (-30000) 30000 k2 → zB (-30000) 30000 k3 → va_P (dC, dI) classes (wS ad cI S k0 k1 k2 k3) H → va_S (zAS ad) s.heap H locs → zB 0 8 i → i ≤ S 11 6 → 8 - i < (k : Int) → f_B_firstAcross_l S a b d v w x z k i = r → lv_has ls 9 [(0, .ref (ad 7)), (1, .int (zi a)), (2, .int (zi b)), (3, .int (zi d)), (4, .int (zi v)), (5, .int (zi w)), (6, .int (zi x)), (7, .int (zi i))] → W p l e { frames := 2, cells := 0, slots := 0, locals := 43 } s m ([.ref (ad 7), .int (zi a), .int (zi b), .int (zi d), .int (zi v), .int (zi w), .int (zi x)] : List Value).toArray below meth c H locs 0 0 (MQ below (zQ (some (.int (zi r))) (fun H => ∃ k0 k1 k2 k3 : Int, zB (-30000) 30000 k0 ∧ zB (-30000) 30000 k1 ∧ zB (-30000) 30000 k2 ∧ zB (-30000) 30000 k3 ∧ va_P (dC, dI) classes (wS ad cI S k0 k1 k2 k3) H) (zAS ad)) ([.ref (ad 7), .int (zi a), .int (zi b), .int (zi d), .int (zi v), .int (zi w), .int (zi x)] : List Value).toArray s 0 0 (zAS ad)) (F0 m 3 ls []) := by
    intro z hz k
    induction k with
    | zero =>
      intro i ls H locs k0 k1 k2 k3 hk0 hk1 hk2 hk3 hP hS hb_i hi_0 hk hq hl
      exact absurd hk (by have := hb_i.1; have := hb_i.2; omega)
    | succ k ih =>
      intro i ls H locs k0 k1 k2 k3 hk0 hk1 hk2 hk3 hP hS hb_i hi_0 hk hq hl
      obtain ⟨hl_i, hh_i⟩ := id hb_i
      replace hq := (f_B_firstAcross_l_s S a b d v w x z k i).symm.trans hq
      refine lv_iload hx hb d_B_firstAcross_3 (lv_at hl 7 rfl) ?_
      refine lv_aload_n hx hb d_B_firstAcross_5 rfl (lv_at hl 0 rfl) ?_
      refine va_get (D := (dC, dI)) (ci := 0) (v := .int (zi (S 11 6))) (C := R_B) (T := T_B) (N := 10) hx hb hw i_B hown hK hP 7 rfl rfl 5 (by decide) (hw _ m_24) (fun _ h9 => h9) rfl d_B_firstAcross_6 ?_
      refine zr_icmp_ge (tgt := 109) hx hb (zB.I hb_i (by decide) (by decide)) (zB.I (iS_s6 hI) (by decide) (by decide)) d_B_firstAcross_9 (by decide) (fun c_1 => ?_) (fun c_1 => ?_)
      · replace hq := (if_neg c_1).symm.trans hq
        exact hz ls _ _ k0 k1 k2 k3 (zB.w hk0 (by decide) (by decide)) (zB.w hk1 (by decide) (by decide)) (zB.w hk2 (by decide) (by decide)) (zB.w hk3 (by decide) (by decide)) hP hS hq (lv_sub hl [0, 1, 2, 3, 4, 5, 6] rfl)
      · replace hq := (if_pos c_1).symm.trans hq
        refine lv_aload_n hx hb d_B_firstAcross_12 rfl (lv_at hl 0 rfl) ?_
        refine zc_w (va_runV (As := []) (rest := []) ⟨hx, hb, hml, hown, hts⟩ (k_B_takeWhole l dC dI ad cI S k0 k1 k2 k3 hI hj   ) (zcV 0 hts m_140 m_2 m_138 m_139 m_381 rfl rfl q_B_takeWhole ⟨Nat.le_of_ble_eq_true rfl, Nat.le_of_ble_eq_true rfl⟩) (zpS7 hP hK hN []) rfl rfl hl.1 rfl (lv_room (Nat.le_of_ble_eq_true rfl)) d_B_firstAcross_13 ⟨Nat.zero_le _, Nat.zero_le _⟩) hS (fun q _ h => h) (fun q h => h) (fun H locs hP hz1 hk1 hS => ?_)
        clear hz1 hk1
        refine lv_aload_n hx hb d_B_firstAcross_16 rfl (lv_at hl 0 rfl) ?_
        refine lv_iload_n hx hb d_B_firstAcross_17 rfl (lv_at hl 1 rfl) ?_
        refine lv_iload hx hb d_B_firstAcross_18 (lv_at hl 4 rfl) ?_
        refine lv_iload_n hx hb d_B_firstAcross_20 rfl (lv_at hl 1 rfl) ?_
        have b_2 : zB (-30000) 30000 (v - a) := zB.w (zb_sub hb_v hb_a) (by decide) (by decide)
        refine zr_isub hx hb d_B_firstAcross_21 ?_
        refine lv_aload_n hx hb d_B_firstAcross_22 rfl (lv_at hl 0 rfl) ?_
        refine va_get (D := (dC, dI)) (ci := 0) (v := .ref (ad 8)) (C := R_B) (T := T_B) (N := 10) hx hb hw i_B hown hK hP 7 rfl rfl 0 (by decide) (hw _ m_19) (fun _ h9 => h9) rfl d_B_firstAcross_23 ?_
        refine lv_iload hx hb d_B_firstAcross_26 (lv_at hl 7 rfl) ?_
        refine zr_iald hx hb hK hP 8 0 (cA := cI) (n := 8) (g := S 6) rfl rfl (i := i) (by omega) (by omega) (by decide) d_B_firstAcross_28 ?_
        refine lv_aload_n hx hb d_B_firstAcross_29 rfl (lv_at hl 0 rfl) ?_
        refine va_get (D := (dC, dI)) (ci := 0) (v := .ref (ad 10)) (C := R_B) (T := T_B) (N := 10) hx hb hw i_B hown hK hP 7 rfl rfl 2 (by decide) (hw _ m_21) (fun _ h9 => h9) rfl d_B_firstAcross_30 ?_
        refine lv_iload hx hb d_B_firstAcross_33 (lv_at hl 7 rfl) ?_
        refine zr_iald hx hb hK hP 10 0 (cA := cI) (n := 8) (g := S 8) rfl rfl (i := i) (by omega) (by omega) (by decide) d_B_firstAcross_35 ?_
        refine zc_w (va_runV (As := [.int (zi a), .int (zi (v - a)), .int (zi (S 6 i)), .int (zi (S 8 i))]) (rest := []) ⟨hx, hb, hml, hown, hts⟩ (k_B_narrow l dC dI ad cI S 0 1 1 1 hI hj (zB.w (zb_c 0) (by decide) (by decide)) (zB.w (zb_c 1) (by decide) (by decide)) (zB.w (zb_c 1) (by decide) (by decide)) (zB.w (zb_c 1) (by decide) (by decide)) a (v - a) (S 6 i) (S 8 i) (zB.w hb_a (by decide) (by decide)) (zB.w b_2 (by decide) (by decide)) (zB.w (iS_a6 hI i) (by decide) (by decide)) (zB.w (iS_a8 hI i) (by decide) (by decide)) ) (zcV 4 hts m_143 m_2 m_141 m_142 m_382 rfl rfl q_B_narrow ⟨Nat.le_of_ble_eq_true rfl, Nat.le_of_ble_eq_true rfl⟩) (zpS7 hP hK hN [.int (zi a), .int (zi (v - a)), .int (zi (S 6 i)), .int (zi (S 8 i))]) rfl rfl hl.1 rfl (lv_room (Nat.le_of_ble_eq_true rfl)) d_B_firstAcross_36 ⟨Nat.zero_le _, Nat.zero_le _⟩) hS (fun q _ h => h) (fun q h => h) (fun H locs hP hz1 hk1 hS => ?_)
        clear hz1 hk1
        have t_3 := b_B_narrow a (v - a) (S 6 i) (S 8 i) 0 1 1 1 (zB.w hb_a (by decide) (by decide)) (zB.w b_2 (by decide) (by decide)) (zB.w (iS_a6 hI i) (by decide) (by decide)) (zB.w (iS_a8 hI i) (by decide) (by decide)) (zB.w (zb_c 0) (by decide) (by decide)) (zB.w (zb_c 1) (by decide) (by decide)) (zB.w (zb_c 1) (by decide) (by decide)) (zB.w (zb_c 1) (by decide) (by decide))
        refine zr_if_eq (tgt := 72) hx hb (zB.I (bb_B_narrow a (v - a) (S 6 i) (S 8 i) 0 1 1 1) (by decide) (by decide)) d_B_firstAcross_39 (by decide) (fun c_4 => ?_) (fun c_4 => ?_)
        · replace hq := (if_pos c_4).symm.trans hq
          have r_5 : zB 0 0 ((f_B_narrow a (v - a) (S 6 i) (S 8 i) 0 1 1 1).1) := ⟨(Int.le_of_eq c_4.symm), (Int.le_of_eq c_4)⟩
          refine lv_iconst (v := zi 0) hx hb d_B_firstAcross_72 rfl ?_
          refine lv_istore (lv' := [(8, .int (zi 0)), (0, .ref (ad 7)), (1, .int (zi a)), (2, .int (zi b)), (3, .int (zi d)), (4, .int (zi v)), (5, .int (zi w)), (6, .int (zi x)), (7, .int (zi i))]) hx hb d_B_firstAcross_73 hl (by decide) rfl (fun ls hl => ?_)
          refine lv_iload hx hb d_B_firstAcross_75 (lv_at hl 0 rfl) ?_
          refine zr_if_eq (tgt := 103) hx hb (zB.I (zb_c 0) (by decide) (by decide)) d_B_firstAcross_77 (by decide) (fun _ => ?_) (fun c => absurd (by decide : (0 : Int) = 0) c)
          have b_6 : zB 1 9 (i + 1) := zB.w (zb_add hb_i (zb_c 1)) (by decide) (by decide)
          refine lv_iinc (v := zi (i + 1)) (lv' := [(7, .int (zi (i + 1))), (8, .int (zi 0)), (0, .ref (ad 7)), (1, .int (zi a)), (2, .int (zi b)), (3, .int (zi d)), (4, .int (zi v)), (5, .int (zi w)), (6, .int (zi x))]) hx hb d_B_firstAcross_103 hl (k := 8) rfl (zi_add _ _) (by decide) rfl (fun ls hl => ?_)
          refine lv_goto (tgt := 3) hx hb d_B_firstAcross_106 (by decide) ?_
          exact ih (i + 1) ls _ _ ((f_B_narrow a (v - a) (S 6 i) (S 8 i) 0 1 1 1).2.1) ((f_B_narrow a (v - a) (S 6 i) (S 8 i) 0 1 1 1).2.2.1) ((f_B_narrow a (v - a) (S 6 i) (S 8 i) 0 1 1 1).2.2.2.1) ((f_B_narrow a (v - a) (S 6 i) (S 8 i) 0 1 1 1).2.2.2.2) (zB.w t_3.1 (by decide) (by decide)) (zB.w t_3.2.1 (by decide) (by decide)) (zB.w t_3.2.2.1 (by decide) (by decide)) (zB.w t_3.2.2.2 (by decide) (by decide)) hP hS ⟨by have h9 := b_6.1; have h8 := b_6.2; omega, by have h9 := b_6.1; have h8 := b_6.2; omega⟩ (by omega) (by omega) hq (lv_sub hl [2, 3, 4, 5, 6, 7, 8, 0] rfl)
        · replace hq := (if_neg c_4).symm.trans hq
          have r_7 : zB 1 1 ((f_B_narrow a (v - a) (S 6 i) (S 8 i) 0 1 1 1).1) := ⟨(by have := (bb_B_narrow a (v - a) (S 6 i) (S 8 i) 0 1 1 1).1; omega), (bb_B_narrow a (v - a) (S 6 i) (S 8 i) 0 1 1 1).2⟩
          refine lv_aload_n hx hb d_B_firstAcross_42 rfl (lv_at hl 0 rfl) ?_
          refine lv_iload_n hx hb d_B_firstAcross_43 rfl (lv_at hl 2 rfl) ?_
          refine lv_iload hx hb d_B_firstAcross_44 (lv_at hl 5 rfl) ?_
          refine lv_iload_n hx hb d_B_firstAcross_46 rfl (lv_at hl 2 rfl) ?_
          have b_8 : zB (-30000) 30000 (w - b) := zB.w (zb_sub hb_w hb_b) (by decide) (by decide)
          refine zr_isub hx hb d_B_firstAcross_47 ?_
          refine lv_aload_n hx hb d_B_firstAcross_48 rfl (lv_at hl 0 rfl) ?_
          refine va_get (D := (dC, dI)) (ci := 0) (v := .ref (ad 9)) (C := R_B) (T := T_B) (N := 10) hx hb hw i_B hown hK hP 7 rfl rfl 1 (by decide) (hw _ m_20) (fun _ h9 => h9) rfl d_B_firstAcross_49 ?_
          refine lv_iload hx hb d_B_firstAcross_52 (lv_at hl 7 rfl) ?_
          refine zr_iald hx hb hK hP 9 0 (cA := cI) (n := 8) (g := S 7) rfl rfl (i := i) (by omega) (by omega) (by decide) d_B_firstAcross_54 ?_
          refine lv_aload_n hx hb d_B_firstAcross_55 rfl (lv_at hl 0 rfl) ?_
          refine va_get (D := (dC, dI)) (ci := 0) (v := .ref (ad 11)) (C := R_B) (T := T_B) (N := 10) hx hb hw i_B hown hK hP 7 rfl rfl 3 (by decide) (hw _ m_22) (fun _ h9 => h9) rfl d_B_firstAcross_56 ?_
          refine lv_iload hx hb d_B_firstAcross_59 (lv_at hl 7 rfl) ?_
          refine zr_iald hx hb hK hP 11 0 (cA := cI) (n := 8) (g := S 9) rfl rfl (i := i) (by omega) (by omega) (by decide) d_B_firstAcross_61 ?_
          refine zc_w (va_runV (As := [.int (zi b), .int (zi (w - b)), .int (zi (S 7 i)), .int (zi (S 9 i))]) (rest := []) ⟨hx, hb, hml, hown, hts⟩ (k_B_narrow l dC dI ad cI S ((f_B_narrow a (v - a) (S 6 i) (S 8 i) 0 1 1 1).2.1) ((f_B_narrow a (v - a) (S 6 i) (S 8 i) 0 1 1 1).2.2.1) ((f_B_narrow a (v - a) (S 6 i) (S 8 i) 0 1 1 1).2.2.2.1) ((f_B_narrow a (v - a) (S 6 i) (S 8 i) 0 1 1 1).2.2.2.2) hI hj (zB.w t_3.1 (by decide) (by decide)) (zB.w t_3.2.1 (by decide) (by decide)) (zB.w t_3.2.2.1 (by decide) (by decide)) (zB.w t_3.2.2.2 (by decide) (by decide)) b (w - b) (S 7 i) (S 9 i) (zB.w hb_b (by decide) (by decide)) (zB.w b_8 (by decide) (by decide)) (zB.w (iS_a7 hI i) (by decide) (by decide)) (zB.w (iS_a9 hI i) (by decide) (by decide)) ) (zcV 4 hts m_143 m_2 m_141 m_142 m_382 rfl rfl q_B_narrow ⟨Nat.le_of_ble_eq_true rfl, Nat.le_of_ble_eq_true rfl⟩) (zpS7 hP hK hN [.int (zi b), .int (zi (w - b)), .int (zi (S 7 i)), .int (zi (S 9 i))]) rfl rfl hl.1 rfl (lv_room (Nat.le_of_ble_eq_true rfl)) d_B_firstAcross_62 ⟨Nat.zero_le _, Nat.zero_le _⟩) hS (fun q _ h => h) (fun q h => h) (fun H locs hP hz1 hk1 hS => ?_)
          clear hz1 hk1
          have t_9 := b_B_narrow b (w - b) (S 7 i) (S 9 i) ((f_B_narrow a (v - a) (S 6 i) (S 8 i) 0 1 1 1).2.1) ((f_B_narrow a (v - a) (S 6 i) (S 8 i) 0 1 1 1).2.2.1) ((f_B_narrow a (v - a) (S 6 i) (S 8 i) 0 1 1 1).2.2.2.1) ((f_B_narrow a (v - a) (S 6 i) (S 8 i) 0 1 1 1).2.2.2.2) (zB.w hb_b (by decide) (by decide)) (zB.w b_8 (by decide) (by decide)) (zB.w (iS_a7 hI i) (by decide) (by decide)) (zB.w (iS_a9 hI i) (by decide) (by decide)) (zB.w t_3.1 (by decide) (by decide)) (zB.w t_3.2.1 (by decide) (by decide)) (zB.w t_3.2.2.1 (by decide) (by decide)) (zB.w t_3.2.2.2 (by decide) (by decide))
          refine zr_if_eq (tgt := 72) hx hb (zB.I (bb_B_narrow b (w - b) (S 7 i) (S 9 i) ((f_B_narrow a (v - a) (S 6 i) (S 8 i) 0 1 1 1).2.1) ((f_B_narrow a (v - a) (S 6 i) (S 8 i) 0 1 1 1).2.2.1) ((f_B_narrow a (v - a) (S 6 i) (S 8 i) 0 1 1 1).2.2.2.1) ((f_B_narrow a (v - a) (S 6 i) (S 8 i) 0 1 1 1).2.2.2.2)) (by decide) (by decide)) d_B_firstAcross_65 (by decide) (fun c_10 => ?_) (fun c_10 => ?_)
          · replace hq := (if_pos c_10).symm.trans hq
            have r_11 : zB 0 0 ((f_B_narrow b (w - b) (S 7 i) (S 9 i) ((f_B_narrow a (v - a) (S 6 i) (S 8 i) 0 1 1 1).2.1) ((f_B_narrow a (v - a) (S 6 i) (S 8 i) 0 1 1 1).2.2.1) ((f_B_narrow a (v - a) (S 6 i) (S 8 i) 0 1 1 1).2.2.2.1) ((f_B_narrow a (v - a) (S 6 i) (S 8 i) 0 1 1 1).2.2.2.2)).1) := ⟨(Int.le_of_eq c_10.symm), (Int.le_of_eq c_10)⟩
            refine lv_iconst (v := zi 0) hx hb d_B_firstAcross_72 rfl ?_
            refine lv_istore (lv' := [(8, .int (zi 0)), (0, .ref (ad 7)), (1, .int (zi a)), (2, .int (zi b)), (3, .int (zi d)), (4, .int (zi v)), (5, .int (zi w)), (6, .int (zi x)), (7, .int (zi i))]) hx hb d_B_firstAcross_73 hl (by decide) rfl (fun ls hl => ?_)
            refine lv_iload hx hb d_B_firstAcross_75 (lv_at hl 0 rfl) ?_
            refine zr_if_eq (tgt := 103) hx hb (zB.I (zb_c 0) (by decide) (by decide)) d_B_firstAcross_77 (by decide) (fun _ => ?_) (fun c => absurd (by decide : (0 : Int) = 0) c)
            have b_12 : zB 1 9 (i + 1) := zB.w (zb_add hb_i (zb_c 1)) (by decide) (by decide)
            refine lv_iinc (v := zi (i + 1)) (lv' := [(7, .int (zi (i + 1))), (8, .int (zi 0)), (0, .ref (ad 7)), (1, .int (zi a)), (2, .int (zi b)), (3, .int (zi d)), (4, .int (zi v)), (5, .int (zi w)), (6, .int (zi x))]) hx hb d_B_firstAcross_103 hl (k := 8) rfl (zi_add _ _) (by decide) rfl (fun ls hl => ?_)
            refine lv_goto (tgt := 3) hx hb d_B_firstAcross_106 (by decide) ?_
            exact ih (i + 1) ls _ _ ((f_B_narrow b (w - b) (S 7 i) (S 9 i) ((f_B_narrow a (v - a) (S 6 i) (S 8 i) 0 1 1 1).2.1) ((f_B_narrow a (v - a) (S 6 i) (S 8 i) 0 1 1 1).2.2.1) ((f_B_narrow a (v - a) (S 6 i) (S 8 i) 0 1 1 1).2.2.2.1) ((f_B_narrow a (v - a) (S 6 i) (S 8 i) 0 1 1 1).2.2.2.2)).2.1) ((f_B_narrow b (w - b) (S 7 i) (S 9 i) ((f_B_narrow a (v - a) (S 6 i) (S 8 i) 0 1 1 1).2.1) ((f_B_narrow a (v - a) (S 6 i) (S 8 i) 0 1 1 1).2.2.1) ((f_B_narrow a (v - a) (S 6 i) (S 8 i) 0 1 1 1).2.2.2.1) ((f_B_narrow a (v - a) (S 6 i) (S 8 i) 0 1 1 1).2.2.2.2)).2.2.1) ((f_B_narrow b (w - b) (S 7 i) (S 9 i) ((f_B_narrow a (v - a) (S 6 i) (S 8 i) 0 1 1 1).2.1) ((f_B_narrow a (v - a) (S 6 i) (S 8 i) 0 1 1 1).2.2.1) ((f_B_narrow a (v - a) (S 6 i) (S 8 i) 0 1 1 1).2.2.2.1) ((f_B_narrow a (v - a) (S 6 i) (S 8 i) 0 1 1 1).2.2.2.2)).2.2.2.1) ((f_B_narrow b (w - b) (S 7 i) (S 9 i) ((f_B_narrow a (v - a) (S 6 i) (S 8 i) 0 1 1 1).2.1) ((f_B_narrow a (v - a) (S 6 i) (S 8 i) 0 1 1 1).2.2.1) ((f_B_narrow a (v - a) (S 6 i) (S 8 i) 0 1 1 1).2.2.2.1) ((f_B_narrow a (v - a) (S 6 i) (S 8 i) 0 1 1 1).2.2.2.2)).2.2.2.2) (zB.w t_9.1 (by decide) (by decide)) (zB.w t_9.2.1 (by decide) (by decide)) (zB.w t_9.2.2.1 (by decide) (by decide)) (zB.w t_9.2.2.2 (by decide) (by decide)) hP hS ⟨by have h9 := b_12.1; have h8 := b_12.2; omega, by have h9 := b_12.1; have h8 := b_12.2; omega⟩ (by omega) (by omega) hq (lv_sub hl [2, 3, 4, 5, 6, 7, 8, 0] rfl)
          · replace hq := (if_neg c_10).symm.trans hq
            have r_13 : zB 1 1 ((f_B_narrow b (w - b) (S 7 i) (S 9 i) ((f_B_narrow a (v - a) (S 6 i) (S 8 i) 0 1 1 1).2.1) ((f_B_narrow a (v - a) (S 6 i) (S 8 i) 0 1 1 1).2.2.1) ((f_B_narrow a (v - a) (S 6 i) (S 8 i) 0 1 1 1).2.2.2.1) ((f_B_narrow a (v - a) (S 6 i) (S 8 i) 0 1 1 1).2.2.2.2)).1) := ⟨(by have := (bb_B_narrow b (w - b) (S 7 i) (S 9 i) ((f_B_narrow a (v - a) (S 6 i) (S 8 i) 0 1 1 1).2.1) ((f_B_narrow a (v - a) (S 6 i) (S 8 i) 0 1 1 1).2.2.1) ((f_B_narrow a (v - a) (S 6 i) (S 8 i) 0 1 1 1).2.2.2.1) ((f_B_narrow a (v - a) (S 6 i) (S 8 i) 0 1 1 1).2.2.2.2)).1; omega), (bb_B_narrow b (w - b) (S 7 i) (S 9 i) ((f_B_narrow a (v - a) (S 6 i) (S 8 i) 0 1 1 1).2.1) ((f_B_narrow a (v - a) (S 6 i) (S 8 i) 0 1 1 1).2.2.1) ((f_B_narrow a (v - a) (S 6 i) (S 8 i) 0 1 1 1).2.2.2.1) ((f_B_narrow a (v - a) (S 6 i) (S 8 i) 0 1 1 1).2.2.2.2)).2⟩
            refine lv_iconst (v := zi 1) hx hb d_B_firstAcross_68 rfl ?_
            refine lv_goto (tgt := 73) hx hb d_B_firstAcross_69 (by decide) ?_
            refine lv_istore (lv' := [(8, .int (zi 1)), (0, .ref (ad 7)), (1, .int (zi a)), (2, .int (zi b)), (3, .int (zi d)), (4, .int (zi v)), (5, .int (zi w)), (6, .int (zi x)), (7, .int (zi i))]) hx hb d_B_firstAcross_73 hl (by decide) rfl (fun ls hl => ?_)
            refine lv_iload hx hb d_B_firstAcross_75 (lv_at hl 0 rfl) ?_
            refine zr_if_eq (tgt := 103) hx hb (zB.I (zb_c 1) (by decide) (by decide)) d_B_firstAcross_77 (by decide) (fun c => absurd c (by decide : ¬ (1 : Int) = 0)) (fun _ => ?_)
            refine lv_aload_n hx hb d_B_firstAcross_80 rfl (lv_at hl 1 rfl) ?_
            refine lv_aload_n hx hb d_B_firstAcross_81 rfl (lv_at hl 1 rfl) ?_
            refine va_get (D := (dC, dI)) (ci := 0) (v := .ref (ad 12)) (C := R_B) (T := T_B) (N := 10) hx hb hw i_B hown hK hP 7 rfl rfl 4 (by decide) (hw _ m_23) (fun _ h9 => h9) rfl d_B_firstAcross_82 ?_
            refine lv_iload hx hb d_B_firstAcross_85 (lv_at hl 8 rfl) ?_
            refine zr_iald hx hb hK hP 12 0 (cA := cI) (n := 8) (g := S 10) rfl rfl (i := i) (by omega) (by omega) (by decide) d_B_firstAcross_87 ?_
            refine zr_i2l hx hb (zB.I (iS_a10 hI i) (by decide) (by decide)) d_B_firstAcross_88 ?_
            refine lv_iload_n hx hb d_B_firstAcross_89 rfl (lv_at hl 4 rfl) ?_
            refine zr_i2l hx hb (zB.I hb_d (by decide) (by decide)) d_B_firstAcross_90 ?_
            refine lv_iload hx hb d_B_firstAcross_91 (lv_at hl 7 rfl) ?_
            refine zr_i2l hx hb (zB.I hb_x (by decide) (by decide)) d_B_firstAcross_93 ?_
            refine zc_n (va_runV (As := [.long (zl (S 10 i)), .long (zl d), .long (zl x)]) (rest := []) ⟨hx, hb, hml, hown, hts⟩ (k_B_dipsBelow l dC dI ad cI S ((f_B_narrow b (w - b) (S 7 i) (S 9 i) ((f_B_narrow a (v - a) (S 6 i) (S 8 i) 0 1 1 1).2.1) ((f_B_narrow a (v - a) (S 6 i) (S 8 i) 0 1 1 1).2.2.1) ((f_B_narrow a (v - a) (S 6 i) (S 8 i) 0 1 1 1).2.2.2.1) ((f_B_narrow a (v - a) (S 6 i) (S 8 i) 0 1 1 1).2.2.2.2)).2.1) ((f_B_narrow b (w - b) (S 7 i) (S 9 i) ((f_B_narrow a (v - a) (S 6 i) (S 8 i) 0 1 1 1).2.1) ((f_B_narrow a (v - a) (S 6 i) (S 8 i) 0 1 1 1).2.2.1) ((f_B_narrow a (v - a) (S 6 i) (S 8 i) 0 1 1 1).2.2.2.1) ((f_B_narrow a (v - a) (S 6 i) (S 8 i) 0 1 1 1).2.2.2.2)).2.2.1) ((f_B_narrow b (w - b) (S 7 i) (S 9 i) ((f_B_narrow a (v - a) (S 6 i) (S 8 i) 0 1 1 1).2.1) ((f_B_narrow a (v - a) (S 6 i) (S 8 i) 0 1 1 1).2.2.1) ((f_B_narrow a (v - a) (S 6 i) (S 8 i) 0 1 1 1).2.2.2.1) ((f_B_narrow a (v - a) (S 6 i) (S 8 i) 0 1 1 1).2.2.2.2)).2.2.2.1) ((f_B_narrow b (w - b) (S 7 i) (S 9 i) ((f_B_narrow a (v - a) (S 6 i) (S 8 i) 0 1 1 1).2.1) ((f_B_narrow a (v - a) (S 6 i) (S 8 i) 0 1 1 1).2.2.1) ((f_B_narrow a (v - a) (S 6 i) (S 8 i) 0 1 1 1).2.2.2.1) ((f_B_narrow a (v - a) (S 6 i) (S 8 i) 0 1 1 1).2.2.2.2)).2.2.2.2) hI (zB.w t_9.1 (by decide) (by decide)) (zB.w t_9.2.1 (by decide) (by decide)) (zB.w t_9.2.2.1 (by decide) (by decide)) (zB.w t_9.2.2.2 (by decide) (by decide)) (S 10 i) d x (zB.w (iS_a10 hI i) (by decide) (by decide)) (zB.w hb_d (by decide) (by decide)) (zB.w hb_x (by decide) (by decide)) ) (zcV 3 hts m_147 m_2 m_145 m_146 m_383 rfl rfl q_B_dipsBelow ⟨Nat.le_of_ble_eq_true rfl, Nat.le_of_ble_eq_true rfl⟩) (zpS7 hP hK hN [.long (zl (S 10 i)), .long (zl d), .long (zl x)]) rfl rfl hl.1 rfl (lv_room (Nat.le_of_ble_eq_true rfl)) d_B_firstAcross_94 ⟨Nat.zero_le _, Nat.zero_le _⟩) ?_
            refine zr_if_eq (tgt := 103) hx hb (zB.I (bb_B_dipsBelow (S 10 i) d x ((f_B_narrow b (w - b) (S 7 i) (S 9 i) ((f_B_narrow a (v - a) (S 6 i) (S 8 i) 0 1 1 1).2.1) ((f_B_narrow a (v - a) (S 6 i) (S 8 i) 0 1 1 1).2.2.1) ((f_B_narrow a (v - a) (S 6 i) (S 8 i) 0 1 1 1).2.2.2.1) ((f_B_narrow a (v - a) (S 6 i) (S 8 i) 0 1 1 1).2.2.2.2)).2.1) ((f_B_narrow b (w - b) (S 7 i) (S 9 i) ((f_B_narrow a (v - a) (S 6 i) (S 8 i) 0 1 1 1).2.1) ((f_B_narrow a (v - a) (S 6 i) (S 8 i) 0 1 1 1).2.2.1) ((f_B_narrow a (v - a) (S 6 i) (S 8 i) 0 1 1 1).2.2.2.1) ((f_B_narrow a (v - a) (S 6 i) (S 8 i) 0 1 1 1).2.2.2.2)).2.2.1) ((f_B_narrow b (w - b) (S 7 i) (S 9 i) ((f_B_narrow a (v - a) (S 6 i) (S 8 i) 0 1 1 1).2.1) ((f_B_narrow a (v - a) (S 6 i) (S 8 i) 0 1 1 1).2.2.1) ((f_B_narrow a (v - a) (S 6 i) (S 8 i) 0 1 1 1).2.2.2.1) ((f_B_narrow a (v - a) (S 6 i) (S 8 i) 0 1 1 1).2.2.2.2)).2.2.2.1) ((f_B_narrow b (w - b) (S 7 i) (S 9 i) ((f_B_narrow a (v - a) (S 6 i) (S 8 i) 0 1 1 1).2.1) ((f_B_narrow a (v - a) (S 6 i) (S 8 i) 0 1 1 1).2.2.1) ((f_B_narrow a (v - a) (S 6 i) (S 8 i) 0 1 1 1).2.2.2.1) ((f_B_narrow a (v - a) (S 6 i) (S 8 i) 0 1 1 1).2.2.2.2)).2.2.2.2)) (by decide) (by decide)) d_B_firstAcross_97 (by decide) (fun c_14 => ?_) (fun c_14 => ?_)
            · replace hq := (if_pos c_14).symm.trans hq
              have r_15 : zB 0 0 (f_B_dipsBelow (S 10 i) d x ((f_B_narrow b (w - b) (S 7 i) (S 9 i) ((f_B_narrow a (v - a) (S 6 i) (S 8 i) 0 1 1 1).2.1) ((f_B_narrow a (v - a) (S 6 i) (S 8 i) 0 1 1 1).2.2.1) ((f_B_narrow a (v - a) (S 6 i) (S 8 i) 0 1 1 1).2.2.2.1) ((f_B_narrow a (v - a) (S 6 i) (S 8 i) 0 1 1 1).2.2.2.2)).2.1) ((f_B_narrow b (w - b) (S 7 i) (S 9 i) ((f_B_narrow a (v - a) (S 6 i) (S 8 i) 0 1 1 1).2.1) ((f_B_narrow a (v - a) (S 6 i) (S 8 i) 0 1 1 1).2.2.1) ((f_B_narrow a (v - a) (S 6 i) (S 8 i) 0 1 1 1).2.2.2.1) ((f_B_narrow a (v - a) (S 6 i) (S 8 i) 0 1 1 1).2.2.2.2)).2.2.1) ((f_B_narrow b (w - b) (S 7 i) (S 9 i) ((f_B_narrow a (v - a) (S 6 i) (S 8 i) 0 1 1 1).2.1) ((f_B_narrow a (v - a) (S 6 i) (S 8 i) 0 1 1 1).2.2.1) ((f_B_narrow a (v - a) (S 6 i) (S 8 i) 0 1 1 1).2.2.2.1) ((f_B_narrow a (v - a) (S 6 i) (S 8 i) 0 1 1 1).2.2.2.2)).2.2.2.1) ((f_B_narrow b (w - b) (S 7 i) (S 9 i) ((f_B_narrow a (v - a) (S 6 i) (S 8 i) 0 1 1 1).2.1) ((f_B_narrow a (v - a) (S 6 i) (S 8 i) 0 1 1 1).2.2.1) ((f_B_narrow a (v - a) (S 6 i) (S 8 i) 0 1 1 1).2.2.2.1) ((f_B_narrow a (v - a) (S 6 i) (S 8 i) 0 1 1 1).2.2.2.2)).2.2.2.2)) := ⟨(Int.le_of_eq c_14.symm), (Int.le_of_eq c_14)⟩
              have b_16 : zB 1 9 (i + 1) := zB.w (zb_add hb_i (zb_c 1)) (by decide) (by decide)
              refine lv_iinc (v := zi (i + 1)) (lv' := [(7, .int (zi (i + 1))), (8, .int (zi 1)), (0, .ref (ad 7)), (1, .int (zi a)), (2, .int (zi b)), (3, .int (zi d)), (4, .int (zi v)), (5, .int (zi w)), (6, .int (zi x))]) hx hb d_B_firstAcross_103 hl (k := 8) rfl (zi_add _ _) (by decide) rfl (fun ls hl => ?_)
              refine lv_goto (tgt := 3) hx hb d_B_firstAcross_106 (by decide) ?_
              exact ih (i + 1) ls _ _ ((f_B_narrow b (w - b) (S 7 i) (S 9 i) ((f_B_narrow a (v - a) (S 6 i) (S 8 i) 0 1 1 1).2.1) ((f_B_narrow a (v - a) (S 6 i) (S 8 i) 0 1 1 1).2.2.1) ((f_B_narrow a (v - a) (S 6 i) (S 8 i) 0 1 1 1).2.2.2.1) ((f_B_narrow a (v - a) (S 6 i) (S 8 i) 0 1 1 1).2.2.2.2)).2.1) ((f_B_narrow b (w - b) (S 7 i) (S 9 i) ((f_B_narrow a (v - a) (S 6 i) (S 8 i) 0 1 1 1).2.1) ((f_B_narrow a (v - a) (S 6 i) (S 8 i) 0 1 1 1).2.2.1) ((f_B_narrow a (v - a) (S 6 i) (S 8 i) 0 1 1 1).2.2.2.1) ((f_B_narrow a (v - a) (S 6 i) (S 8 i) 0 1 1 1).2.2.2.2)).2.2.1) ((f_B_narrow b (w - b) (S 7 i) (S 9 i) ((f_B_narrow a (v - a) (S 6 i) (S 8 i) 0 1 1 1).2.1) ((f_B_narrow a (v - a) (S 6 i) (S 8 i) 0 1 1 1).2.2.1) ((f_B_narrow a (v - a) (S 6 i) (S 8 i) 0 1 1 1).2.2.2.1) ((f_B_narrow a (v - a) (S 6 i) (S 8 i) 0 1 1 1).2.2.2.2)).2.2.2.1) ((f_B_narrow b (w - b) (S 7 i) (S 9 i) ((f_B_narrow a (v - a) (S 6 i) (S 8 i) 0 1 1 1).2.1) ((f_B_narrow a (v - a) (S 6 i) (S 8 i) 0 1 1 1).2.2.1) ((f_B_narrow a (v - a) (S 6 i) (S 8 i) 0 1 1 1).2.2.2.1) ((f_B_narrow a (v - a) (S 6 i) (S 8 i) 0 1 1 1).2.2.2.2)).2.2.2.2) (zB.w t_9.1 (by decide) (by decide)) (zB.w t_9.2.1 (by decide) (by decide)) (zB.w t_9.2.2.1 (by decide) (by decide)) (zB.w t_9.2.2.2 (by decide) (by decide)) hP hS ⟨by have h9 := b_16.1; have h8 := b_16.2; omega, by have h9 := b_16.1; have h8 := b_16.2; omega⟩ (by omega) (by omega) hq (lv_sub hl [2, 3, 4, 5, 6, 7, 8, 0] rfl)
            · replace hq := (if_neg c_14).symm.trans hq
              have r_17 : zB 1 1 (f_B_dipsBelow (S 10 i) d x ((f_B_narrow b (w - b) (S 7 i) (S 9 i) ((f_B_narrow a (v - a) (S 6 i) (S 8 i) 0 1 1 1).2.1) ((f_B_narrow a (v - a) (S 6 i) (S 8 i) 0 1 1 1).2.2.1) ((f_B_narrow a (v - a) (S 6 i) (S 8 i) 0 1 1 1).2.2.2.1) ((f_B_narrow a (v - a) (S 6 i) (S 8 i) 0 1 1 1).2.2.2.2)).2.1) ((f_B_narrow b (w - b) (S 7 i) (S 9 i) ((f_B_narrow a (v - a) (S 6 i) (S 8 i) 0 1 1 1).2.1) ((f_B_narrow a (v - a) (S 6 i) (S 8 i) 0 1 1 1).2.2.1) ((f_B_narrow a (v - a) (S 6 i) (S 8 i) 0 1 1 1).2.2.2.1) ((f_B_narrow a (v - a) (S 6 i) (S 8 i) 0 1 1 1).2.2.2.2)).2.2.1) ((f_B_narrow b (w - b) (S 7 i) (S 9 i) ((f_B_narrow a (v - a) (S 6 i) (S 8 i) 0 1 1 1).2.1) ((f_B_narrow a (v - a) (S 6 i) (S 8 i) 0 1 1 1).2.2.1) ((f_B_narrow a (v - a) (S 6 i) (S 8 i) 0 1 1 1).2.2.2.1) ((f_B_narrow a (v - a) (S 6 i) (S 8 i) 0 1 1 1).2.2.2.2)).2.2.2.1) ((f_B_narrow b (w - b) (S 7 i) (S 9 i) ((f_B_narrow a (v - a) (S 6 i) (S 8 i) 0 1 1 1).2.1) ((f_B_narrow a (v - a) (S 6 i) (S 8 i) 0 1 1 1).2.2.1) ((f_B_narrow a (v - a) (S 6 i) (S 8 i) 0 1 1 1).2.2.2.1) ((f_B_narrow a (v - a) (S 6 i) (S 8 i) 0 1 1 1).2.2.2.2)).2.2.2.2)) := ⟨(by have := (bb_B_dipsBelow (S 10 i) d x ((f_B_narrow b (w - b) (S 7 i) (S 9 i) ((f_B_narrow a (v - a) (S 6 i) (S 8 i) 0 1 1 1).2.1) ((f_B_narrow a (v - a) (S 6 i) (S 8 i) 0 1 1 1).2.2.1) ((f_B_narrow a (v - a) (S 6 i) (S 8 i) 0 1 1 1).2.2.2.1) ((f_B_narrow a (v - a) (S 6 i) (S 8 i) 0 1 1 1).2.2.2.2)).2.1) ((f_B_narrow b (w - b) (S 7 i) (S 9 i) ((f_B_narrow a (v - a) (S 6 i) (S 8 i) 0 1 1 1).2.1) ((f_B_narrow a (v - a) (S 6 i) (S 8 i) 0 1 1 1).2.2.1) ((f_B_narrow a (v - a) (S 6 i) (S 8 i) 0 1 1 1).2.2.2.1) ((f_B_narrow a (v - a) (S 6 i) (S 8 i) 0 1 1 1).2.2.2.2)).2.2.1) ((f_B_narrow b (w - b) (S 7 i) (S 9 i) ((f_B_narrow a (v - a) (S 6 i) (S 8 i) 0 1 1 1).2.1) ((f_B_narrow a (v - a) (S 6 i) (S 8 i) 0 1 1 1).2.2.1) ((f_B_narrow a (v - a) (S 6 i) (S 8 i) 0 1 1 1).2.2.2.1) ((f_B_narrow a (v - a) (S 6 i) (S 8 i) 0 1 1 1).2.2.2.2)).2.2.2.1) ((f_B_narrow b (w - b) (S 7 i) (S 9 i) ((f_B_narrow a (v - a) (S 6 i) (S 8 i) 0 1 1 1).2.1) ((f_B_narrow a (v - a) (S 6 i) (S 8 i) 0 1 1 1).2.2.1) ((f_B_narrow a (v - a) (S 6 i) (S 8 i) 0 1 1 1).2.2.2.1) ((f_B_narrow a (v - a) (S 6 i) (S 8 i) 0 1 1 1).2.2.2.2)).2.2.2.2)).1; omega), (bb_B_dipsBelow (S 10 i) d x ((f_B_narrow b (w - b) (S 7 i) (S 9 i) ((f_B_narrow a (v - a) (S 6 i) (S 8 i) 0 1 1 1).2.1) ((f_B_narrow a (v - a) (S 6 i) (S 8 i) 0 1 1 1).2.2.1) ((f_B_narrow a (v - a) (S 6 i) (S 8 i) 0 1 1 1).2.2.2.1) ((f_B_narrow a (v - a) (S 6 i) (S 8 i) 0 1 1 1).2.2.2.2)).2.1) ((f_B_narrow b (w - b) (S 7 i) (S 9 i) ((f_B_narrow a (v - a) (S 6 i) (S 8 i) 0 1 1 1).2.1) ((f_B_narrow a (v - a) (S 6 i) (S 8 i) 0 1 1 1).2.2.1) ((f_B_narrow a (v - a) (S 6 i) (S 8 i) 0 1 1 1).2.2.2.1) ((f_B_narrow a (v - a) (S 6 i) (S 8 i) 0 1 1 1).2.2.2.2)).2.2.1) ((f_B_narrow b (w - b) (S 7 i) (S 9 i) ((f_B_narrow a (v - a) (S 6 i) (S 8 i) 0 1 1 1).2.1) ((f_B_narrow a (v - a) (S 6 i) (S 8 i) 0 1 1 1).2.2.1) ((f_B_narrow a (v - a) (S 6 i) (S 8 i) 0 1 1 1).2.2.2.1) ((f_B_narrow a (v - a) (S 6 i) (S 8 i) 0 1 1 1).2.2.2.2)).2.2.2.1) ((f_B_narrow b (w - b) (S 7 i) (S 9 i) ((f_B_narrow a (v - a) (S 6 i) (S 8 i) 0 1 1 1).2.1) ((f_B_narrow a (v - a) (S 6 i) (S 8 i) 0 1 1 1).2.2.1) ((f_B_narrow a (v - a) (S 6 i) (S 8 i) 0 1 1 1).2.2.2.1) ((f_B_narrow a (v - a) (S 6 i) (S 8 i) 0 1 1 1).2.2.2.2)).2.2.2.2)).2⟩
              refine lv_iload hx hb d_B_firstAcross_100 (lv_at hl 8 rfl) ?_
              exact zw_i hx hb hr hlocks hq ⟨(f_B_narrow b (w - b) (S 7 i) (S 9 i) ((f_B_narrow a (v - a) (S 6 i) (S 8 i) 0 1 1 1).2.1) ((f_B_narrow a (v - a) (S 6 i) (S 8 i) 0 1 1 1).2.2.1) ((f_B_narrow a (v - a) (S 6 i) (S 8 i) 0 1 1 1).2.2.2.1) ((f_B_narrow a (v - a) (S 6 i) (S 8 i) 0 1 1 1).2.2.2.2)).2.1, (f_B_narrow b (w - b) (S 7 i) (S 9 i) ((f_B_narrow a (v - a) (S 6 i) (S 8 i) 0 1 1 1).2.1) ((f_B_narrow a (v - a) (S 6 i) (S 8 i) 0 1 1 1).2.2.1) ((f_B_narrow a (v - a) (S 6 i) (S 8 i) 0 1 1 1).2.2.2.1) ((f_B_narrow a (v - a) (S 6 i) (S 8 i) 0 1 1 1).2.2.2.2)).2.2.1, (f_B_narrow b (w - b) (S 7 i) (S 9 i) ((f_B_narrow a (v - a) (S 6 i) (S 8 i) 0 1 1 1).2.1) ((f_B_narrow a (v - a) (S 6 i) (S 8 i) 0 1 1 1).2.2.1) ((f_B_narrow a (v - a) (S 6 i) (S 8 i) 0 1 1 1).2.2.2.1) ((f_B_narrow a (v - a) (S 6 i) (S 8 i) 0 1 1 1).2.2.2.2)).2.2.2.1, (f_B_narrow b (w - b) (S 7 i) (S 9 i) ((f_B_narrow a (v - a) (S 6 i) (S 8 i) 0 1 1 1).2.1) ((f_B_narrow a (v - a) (S 6 i) (S 8 i) 0 1 1 1).2.2.1) ((f_B_narrow a (v - a) (S 6 i) (S 8 i) 0 1 1 1).2.2.2.1) ((f_B_narrow a (v - a) (S 6 i) (S 8 i) 0 1 1 1).2.2.2.2)).2.2.2.2, zB.w t_9.1 (by decide) (by decide), zB.w t_9.2.1 (by decide) (by decide), zB.w t_9.2.2.1 (by decide) (by decide), zB.w t_9.2.2.2 (by decide) (by decide), hP⟩ hS d_B_firstAcross_102
  refine L_l _ (fun ls H locs k0 k1 k2 k3 hk0 hk1 hk2 hk3 hP hS hq hl => ?_) 9 0 ls _ _ k0 k1 k2 k3 (zB.w hb_k0 (by decide) (by decide)) (zB.w hb_k1 (by decide) (by decide)) (zB.w hb_k2 (by decide) (by decide)) (zB.w hb_k3 (by decide) (by decide)) hP hS (zB.w (zb_c 0) (by decide) (by decide)) (by omega) (by omega) hq (lv_sub hl [1, 2, 3, 4, 5, 6, 7, 0] rfl)
  refine lv_iconst (v := zi (-1)) hx hb d_B_firstAcross_109 rfl ?_
  exact zw_i hx hb hr hlocks hq ⟨k0, k1, k2, k3, zB.w hk0 (by decide) (by decide), zB.w hk1 (by decide) (by decide), zB.w hk2 (by decide) (by decide), zB.w hk3 (by decide) (by decide), hP⟩ hS d_B_firstAcross_110
def f_S_interruption_g (S : Nat → Int → Int) (a : Int) (b : Int) (z : Int) : Nat → Int → Int
  | 0, _ => 0
  | k + 1, i => if i < (zmax a b) then (if (f_S_isGroundAbove S a b i) = 0 then (f_S_interruption_g S a b z k (i + 1)) else (64 + i)) else (z)
theorem f_S_interruption_g_s (S : Nat → Int → Int) (a : Int) (b : Int) (z : Int) (k : Nat) (i : Int) : f_S_interruption_g S a b z (k + 1) i = (if i < (zmax a b) then (if (f_S_isGroundAbove S a b i) = 0 then (f_S_interruption_g S a b z k (i + 1)) else (64 + i)) else (z)) := rfl
def f_S_interruption_b (S : Nat → Int → Int) (a : Int) (b : Int) (z : Int) : Nat → Int → Int
  | 0, _ => 0
  | k + 1, i => if i < (zmax a b) then (if (f_S_isBankInWay S (zmin a b) (zmax a b) i) = 0 then (f_S_interruption_b S a b z k (i + 1)) else (128 + i)) else (z)
theorem f_S_interruption_b_s (S : Nat → Int → Int) (a : Int) (b : Int) (z : Int) (k : Nat) (i : Int) : f_S_interruption_b S a b z (k + 1) i = (if i < (zmax a b) then (if (f_S_isBankInWay S (zmin a b) (zmax a b) i) = 0 then (f_S_interruption_b S a b z k (i + 1)) else (128 + i)) else (z)) := rfl
def f_S_interruption (S : Nat → Int → Int) (a b : Int) : Int := f_S_interruption_g S a b (f_S_interruption_b S a b (if (f_B_firstAcross S (S 0 a) (S 1 a) ((S 2 a) + (S 11 2)) (S 0 b) (S 1 b) ((S 2 b) + (S 11 3))) = (-1) then (0) else (192 + (f_B_firstAcross S (S 0 a) (S 1 a) ((S 2 a) + (S 11 2)) (S 0 b) (S 1 b) ((S 2 b) + (S 11 3))))) 61 ((zmin a b) + 1)) 61 ((zmin a b) + 1)
theorem br_S_interruption (S : Nat → Int → Int) (a b : Int) (hI : iS S) (ha : zB 0 59 a) (hb : zB 0 59 b) : zB 0 255 (f_S_interruption S a b) := by
  obtain ⟨ha1, ha2⟩ := id ha
  obtain ⟨hb1, hb2⟩ := id hb
  have hm : zmax a b ≤ 59 := by unfold zmax; split <;> omega
  have hn : 0 ≤ zmin a b ∧ zmin a b ≤ 59 := by unfold zmin; split <;> omega
  have keyg : ∀ (z : Int), zB 0 255 z → ∀ (k : Nat) (i : Int), zB 1 60 i → zB 0 255 (f_S_interruption_g S a b z k i) := by
    intro z hz k
    induction k with
    | zero => intro i h; show zB 0 255 0; exact ⟨by decide, by decide⟩
    | succ k ih =>
      intro i h
      obtain ⟨h1, h2⟩ := id h
      rw [f_S_interruption_g_s]
      repeat' split
      all_goals first | exact hz | exact ⟨by omega, by omega⟩ | exact ih _ ⟨by omega, by omega⟩
  have keyb : ∀ (z : Int), zB 0 255 z → ∀ (k : Nat) (i : Int), zB 1 60 i → zB 0 255 (f_S_interruption_b S a b z k i) := by
    intro z hz k
    induction k with
    | zero => intro i h; show zB 0 255 0; exact ⟨by decide, by decide⟩
    | succ k ih =>
      intro i h
      obtain ⟨h1, h2⟩ := id h
      rw [f_S_interruption_b_s]
      repeat' split
      all_goals first | exact hz | exact ⟨by omega, by omega⟩ | exact ih _ ⟨by omega, by omega⟩
  have hf := br_B_firstAcross S (S 0 a) (S 1 a) (S 2 a + S 11 2) (S 0 b) (S 1 b) (S 2 b + S 11 3) hI (iS_a0 hI a) (iS_a1 hI a) (zB.w (zb_add (iS_a2 hI a) (iS_s2 hI)) (by decide) (by decide)) (iS_a0 hI b) (iS_a1 hI b) (zB.w (zb_add (iS_a2 hI b) (iS_s3 hI)) (by decide) (by decide))
  obtain ⟨hf1, hf2⟩ := id hf
  unfold f_S_interruption
  refine keyg _ (keyb _ ?_ _ _ ⟨by omega, by omega⟩) _ _ ⟨by omega, by omega⟩
  split
  · exact ⟨by decide, by decide⟩
  · exact ⟨by omega, by omega⟩
set_option maxHeartbeats 4000000 in
set_option maxRecDepth 100000 in
theorem k_S_interruption (l : Launch) (dC : Nat → ClassId) (dI : Nat → Nat → Nat) (ad : Nat → Nat) (cI : ClassId) (S : Nat → Int → Int) (k0 k1 k2 k3 : Int) (hI : iS S) (hj : zJ 13 ad) (hb_k0 : zB (-30000) 30000 k0) (hb_k1 : zB (-30000) 30000 k1) (hb_k2 : zB (-30000) 30000 k2) (hb_k3 : zB (-30000) 30000 k3) (a b : Int) (hb_a : zB 0 59 a) (hb_b : zB 0 59 b) : Met l y_S_interruption (Cond.code y_S_interruption c_S_interruption 6 (some .int) :: zT) { frames := 3, cells := 0, slots := 0, locals := 71 } (va_Pc ([.ref (ad 0), .int (zi a), .int (zi b)] : List Value) (zWS dC dI ad cI S k0 k1 k2 k3)) (zQ (some (.int (zi (f_S_interruption S a b)))) (fun H => ∃ k0 k1 k2 k3 : Int, zB (-30000) 30000 k0 ∧ zB (-30000) 30000 k1 ∧ zB (-30000) 30000 k2 ∧ zB (-30000) 30000 k3 ∧ va_P (dC, dI) classes (wS ad cI S k0 k1 k2 k3) H) (zAS ad)) 0 0 (zAS ad) := by
  refine zh (cc := c_S_interruption) (C := R_S) (by decide) rfl rfl (Nat.le_of_ble_eq_true rfl) ?_
  intro p e s m below meth c ls hx hb hr hlocks hml hown hname hts hl hB
  have hw : ∀ w9 ∈ zT, w9.before ([.ref (ad 0), .int (zi a), .int (zi b)] : List Value).toArray s = true := fun w9 h => hts w9 (List.mem_cons_of_mem _ h)
  obtain ⟨hP, hK, hN⟩ := hB
  obtain ⟨hn0, hn1⟩ := id (iS_s0 hI)
  have hD := zDS hj cI
  have hS : va_S (zAS ad) s.heap s.heap [] := va_S.rf
  obtain ⟨hz0, hz1⟩ := id (iS_s6 hI)
  obtain ⟨hl_a, hh_a⟩ := id hb_a
  obtain ⟨hl_b, hh_b⟩ := id hb_b
  generalize hq : f_S_interruption S a b = r
  unfold f_S_interruption at hq
  replace hl : lv_has ls 6 [(0, .ref (ad 0)), (1, .int (zi a)), (2, .int (zi b))] := hl
  refine lv_iload_n hx hb d_S_interruption_0 rfl (lv_at hl 1 rfl) ?_
  refine lv_iload_n hx hb d_S_interruption_1 rfl (lv_at hl 2 rfl) ?_
  refine zr_min hx hb (hml.trans hl.1.symm) hown (hw _ m_114) (hw _ m_115) (hw _ m_4) (hw _ m_116) (Nat.le_of_ble_eq_true rfl) (Nat.le_of_ble_eq_true rfl) (Nat.zero_le _) (Nat.zero_le _) (zB.I hb_a (by decide) (by decide)) (zB.I hb_b (by decide) (by decide)) d_S_interruption_2 ?_
  have b_1 : zB 0 59 (zmin a b) := zB.w (zb_min (lo := 0) (hi := 59) (zB.w hb_a (by decide) (by decide)) (zB.w hb_b (by decide) (by decide))) (by decide) (by decide)
  obtain ⟨hl_b_1, hh_b_1⟩ := id b_1
  refine lv_istore_n (lv' := [(3, .int (zi (zmin a b))), (0, .ref (ad 0)), (1, .int (zi a)), (2, .int (zi b))]) hx hb d_S_interruption_5 rfl hl (by decide) rfl (fun ls hl => ?_)
  refine lv_iload_n hx hb d_S_interruption_6 rfl (lv_at hl 2 rfl) ?_
  refine lv_iload_n hx hb d_S_interruption_7 rfl (lv_at hl 3 rfl) ?_
  refine zr_max hx hb (hml.trans hl.1.symm) hown (hw _ m_71) (hw _ m_72) (hw _ m_4) (hw _ m_73) (Nat.le_of_ble_eq_true rfl) (Nat.le_of_ble_eq_true rfl) (Nat.zero_le _) (Nat.zero_le _) (zB.I hb_a (by decide) (by decide)) (zB.I hb_b (by decide) (by decide)) d_S_interruption_8 ?_
  have b_2 : zB 0 59 (zmax a b) := zB.w (zb_maxl (lo := 0) (hi := 59) hb_a hb_b (by decide) (by decide) (by decide)) (by decide) (by decide)
  obtain ⟨hl_b_2, hh_b_2⟩ := id b_2
  refine lv_istore (lv' := [(4, .int (zi (zmax a b))), (3, .int (zi (zmin a b))), (0, .ref (ad 0)), (1, .int (zi a)), (2, .int (zi b))]) hx hb d_S_interruption_11 hl (by decide) rfl (fun ls hl => ?_)
  refine lv_iload_n hx hb d_S_interruption_13 rfl (lv_at hl 1 rfl) ?_
  refine lv_iconst (v := zi 1) hx hb d_S_interruption_14 rfl ?_
  have b_3 : zB 1 60 ((zmin a b) + 1) := zB.w (zb_add b_1 (zb_c 1)) (by decide) (by decide)
  refine zr_iadd hx hb d_S_interruption_15 ?_
  refine lv_istore (lv' := [(5, .int (zi ((zmin a b) + 1))), (4, .int (zi (zmax a b))), (3, .int (zi (zmin a b))), (0, .ref (ad 0)), (1, .int (zi a)), (2, .int (zi b))]) hx hb d_S_interruption_16 hl (by decide) rfl (fun ls hl => ?_)
  have L_g : ∀ (z : Int), (∀ (ls : Array Slot) (H : Heap) (locs : List Loc) (k0 k1 k2 k3 : Int), zB (-30000) 30000 k0 → zB (-30000) 30000 k1 → zB (-30000) 30000 k2 → zB (-30000) 30000 k3 → va_P (dC, dI) classes (wS ad cI S k0 k1 k2 k3) H → va_S (zAS ad) s.heap H locs → z = r → lv_has ls 6 [(0, .ref (ad 0)), (1, .int (zi a)), (2, .int (zi b)), (3, .int (zi (zmin a b))), (4, .int (zi (zmax a b)))] → W p l e { frames := 3, cells := 0, slots := 0, locals := 71 } s m ([.ref (ad 0), .int (zi a), .int (zi b)] : List Value).toArray below meth c H locs 0 0 (MQ below (zQ (some (.int (zi r))) (fun H => ∃ k0 k1 k2 k3 : Int, zB (-30000) 30000 k0 ∧ zB (-30000) 30000 k1 ∧ zB (-30000) 30000 k2 ∧ zB (-30000) 30000 k3 ∧ va_P (dC, dI) classes (wS ad cI S k0 k1 k2 k3) H) (zAS ad)) ([.ref (ad 0), .int (zi a), .int (zi b)] : List Value).toArray s 0 0 (zAS ad)) (F0 m 48 ls [])) → ∀ (k : Nat) (i : Int) (ls : Array Slot) (H : Heap) (locs : List Loc) (k0 k1 k2 k3 : Int), zB (-30000) 30000 k0 → zB (-30000) 30000 k1 → zB (-30000) 30000 k2 → zB (-30000) 30000 k3 → va_P (dC, dI) classes (wS ad cI S k0 k1 k2 k3) H → va_S (zAS ad) s.heap H locs → zB 1 60 i → 60 - i < (k : Int) → f_S_interruption_g S a b z k i = r → lv_has ls 6 [(0, .ref (ad 0)), (1, .int (zi a)), (2, .int (zi b)), (3, .int (zi (zmin a b))), (4, .int (zi (zmax a b))), (5, .int (zi i))] → W p l e { frames := 3, cells := 0, slots := 0, locals := 71 } s m ([.ref (ad 0), .int (zi a), .int (zi b)] : List Value).toArray below meth c H locs 0 0 (MQ below (zQ (some (.int (zi r))) (fun H => ∃ k0 k1 k2 k3 : Int, zB (-30000) 30000 k0 ∧ zB (-30000) 30000 k1 ∧ zB (-30000) 30000 k2 ∧ zB (-30000) 30000 k3 ∧ va_P (dC, dI) classes (wS ad cI S k0 k1 k2 k3) H) (zAS ad)) ([.ref (ad 0), .int (zi a), .int (zi b)] : List Value).toArray s 0 0 (zAS ad)) (F0 m 18 ls []) := by
    intro z hz k
    induction k with
    | zero =>
      intro i ls H locs k0 k1 k2 k3 hk0 hk1 hk2 hk3 hP hS hb_i  hk hq hl
      exact absurd hk (by have := hb_i.1; have := hb_i.2; omega)
    | succ k ih =>
      intro i ls H locs k0 k1 k2 k3 hk0 hk1 hk2 hk3 hP hS hb_i  hk hq hl
      obtain ⟨hl_i, hh_i⟩ := id hb_i
      replace hq := (f_S_interruption_g_s S a b z k i).symm.trans hq
      refine lv_iload hx hb d_S_interruption_18 (lv_at hl 5 rfl) ?_
      refine lv_iload hx hb d_S_interruption_20 (lv_at hl 4 rfl) ?_
      refine zr_icmp_ge (tgt := 48) hx hb (zB.I hb_i (by decide) (by decide)) (zB.I b_2 (by decide) (by decide)) d_S_interruption_22 (by decide) (fun c_4 => ?_) (fun c_4 => ?_)
      · replace hq := (if_neg c_4).symm.trans hq
        exact hz ls _ _ k0 k1 k2 k3 (zB.w hk0 (by decide) (by decide)) (zB.w hk1 (by decide) (by decide)) (zB.w hk2 (by decide) (by decide)) (zB.w hk3 (by decide) (by decide)) hP hS hq (lv_sub hl [0, 1, 2, 3, 4] rfl)
      · replace hq := (if_pos c_4).symm.trans hq
        refine lv_aload_n hx hb d_S_interruption_25 rfl (lv_at hl 0 rfl) ?_
        refine lv_iload_n hx hb d_S_interruption_26 rfl (lv_at hl 1 rfl) ?_
        refine lv_iload_n hx hb d_S_interruption_27 rfl (lv_at hl 2 rfl) ?_
        refine lv_iload hx hb d_S_interruption_28 (lv_at hl 5 rfl) ?_
        refine zc_n (va_runV (As := [.int (zi a), .int (zi b), .int (zi i)]) (rest := []) ⟨hx, hb, hml, hown, hts⟩ (k_S_isGroundAbove l dC dI ad cI S k0 k1 k2 k3 hI a b i (zB.w hb_a (by decide) (by decide)) (zB.w hb_b (by decide) (by decide)) ⟨by omega, by omega⟩ ) (zcV 3 hts m_119 m_1 m_117 m_118 m_377 rfl rfl q_S_isGroundAbove ⟨Nat.le_of_ble_eq_true rfl, Nat.le_of_ble_eq_true rfl⟩) (zpS0 hP hK hN [.int (zi a), .int (zi b), .int (zi i)]) rfl rfl hl.1 rfl (lv_room (Nat.le_of_ble_eq_true rfl)) d_S_interruption_30 ⟨Nat.zero_le _, Nat.zero_le _⟩) ?_
        refine zr_if_eq (tgt := 42) hx hb (zB.I (bb_S_isGroundAbove S a b i) (by decide) (by decide)) d_S_interruption_33 (by decide) (fun c_5 => ?_) (fun c_5 => ?_)
        · replace hq := (if_pos c_5).symm.trans hq
          have r_6 : zB 0 0 (f_S_isGroundAbove S a b i) := ⟨(Int.le_of_eq c_5.symm), (Int.le_of_eq c_5)⟩
          have b_7 : zB 2 61 (i + 1) := zB.w (zb_add hb_i (zb_c 1)) (by decide) (by decide)
          refine lv_iinc (v := zi (i + 1)) (lv' := [(5, .int (zi (i + 1))), (0, .ref (ad 0)), (1, .int (zi a)), (2, .int (zi b)), (3, .int (zi (zmin a b))), (4, .int (zi (zmax a b)))]) hx hb d_S_interruption_42 hl (k := 5) rfl (zi_add _ _) (by decide) rfl (fun ls hl => ?_)
          refine lv_goto (tgt := 18) hx hb d_S_interruption_45 (by decide) ?_
          exact ih (i + 1) ls _ _ k0 k1 k2 k3 (zB.w hk0 (by decide) (by decide)) (zB.w hk1 (by decide) (by decide)) (zB.w hk2 (by decide) (by decide)) (zB.w hk3 (by decide) (by decide)) hP hS ⟨by have h9 := b_7.1; have h8 := b_7.2; omega, by have h9 := b_7.1; have h8 := b_7.2; omega⟩  (by omega) hq (lv_sub hl [1, 2, 3, 4, 5, 0] rfl)
        · replace hq := (if_neg c_5).symm.trans hq
          have r_8 : zB 1 1 (f_S_isGroundAbove S a b i) := ⟨(by have := (bb_S_isGroundAbove S a b i).1; omega), (bb_S_isGroundAbove S a b i).2⟩
          refine lv_bipush (v := zi 64) hx hb d_S_interruption_36 (by decide) ?_
          refine lv_iload hx hb d_S_interruption_38 (lv_at hl 5 rfl) ?_
          have b_9 : zB 65 124 (64 + i) := zB.w (zb_add (zb_c 64) hb_i) (by decide) (by decide)
          refine zr_iadd hx hb d_S_interruption_40 ?_
          exact zw_i hx hb hr hlocks hq ⟨k0, k1, k2, k3, zB.w hk0 (by decide) (by decide), zB.w hk1 (by decide) (by decide), zB.w hk2 (by decide) (by decide), zB.w hk3 (by decide) (by decide), hP⟩ hS d_S_interruption_41
  refine L_g _ (fun ls H locs k0 k1 k2 k3 hk0 hk1 hk2 hk3 hP hS hq hl => ?_) 61 ((zmin a b) + 1) ls _ _ k0 k1 k2 k3 (zB.w hb_k0 (by decide) (by decide)) (zB.w hb_k1 (by decide) (by decide)) (zB.w hb_k2 (by decide) (by decide)) (zB.w hb_k3 (by decide) (by decide)) hP hS (zB.w b_3 (by decide) (by decide))  (by omega) hq (lv_sub hl [3, 4, 5, 2, 1, 0] rfl)
  refine lv_iload_n hx hb d_S_interruption_48 rfl (lv_at hl 3 rfl) ?_
  refine lv_iconst (v := zi 1) hx hb d_S_interruption_49 rfl ?_
  refine zr_iadd hx hb d_S_interruption_50 ?_
  refine lv_istore (lv' := [(5, .int (zi ((zmin a b) + 1))), (0, .ref (ad 0)), (1, .int (zi a)), (2, .int (zi b)), (3, .int (zi (zmin a b))), (4, .int (zi (zmax a b)))]) hx hb d_S_interruption_51 hl (by decide) rfl (fun ls hl => ?_)
  have L_b : ∀ (z : Int), (∀ (ls : Array Slot) (H : Heap) (locs : List Loc) (k0 k1 k2 k3 : Int), zB (-30000) 30000 k0 → zB (-30000) 30000 k1 → zB (-30000) 30000 k2 → zB (-30000) 30000 k3 → va_P (dC, dI) classes (wS ad cI S k0 k1 k2 k3) H → va_S (zAS ad) s.heap H locs → z = r → lv_has ls 6 [(0, .ref (ad 0)), (1, .int (zi a)), (2, .int (zi b)), (3, .int (zi (zmin a b))), (4, .int (zi (zmax a b)))] → W p l e { frames := 3, cells := 0, slots := 0, locals := 71 } s m ([.ref (ad 0), .int (zi a), .int (zi b)] : List Value).toArray below meth c H locs 0 0 (MQ below (zQ (some (.int (zi r))) (fun H => ∃ k0 k1 k2 k3 : Int, zB (-30000) 30000 k0 ∧ zB (-30000) 30000 k1 ∧ zB (-30000) 30000 k2 ∧ zB (-30000) 30000 k3 ∧ va_P (dC, dI) classes (wS ad cI S k0 k1 k2 k3) H) (zAS ad)) ([.ref (ad 0), .int (zi a), .int (zi b)] : List Value).toArray s 0 0 (zAS ad)) (F0 m 85 ls [])) → ∀ (k : Nat) (i : Int) (ls : Array Slot) (H : Heap) (locs : List Loc) (k0 k1 k2 k3 : Int), zB (-30000) 30000 k0 → zB (-30000) 30000 k1 → zB (-30000) 30000 k2 → zB (-30000) 30000 k3 → va_P (dC, dI) classes (wS ad cI S k0 k1 k2 k3) H → va_S (zAS ad) s.heap H locs → zB 1 60 i → 60 - i < (k : Int) → f_S_interruption_b S a b z k i = r → lv_has ls 6 [(0, .ref (ad 0)), (1, .int (zi a)), (2, .int (zi b)), (3, .int (zi (zmin a b))), (4, .int (zi (zmax a b))), (5, .int (zi i))] → W p l e { frames := 3, cells := 0, slots := 0, locals := 71 } s m ([.ref (ad 0), .int (zi a), .int (zi b)] : List Value).toArray below meth c H locs 0 0 (MQ below (zQ (some (.int (zi r))) (fun H => ∃ k0 k1 k2 k3 : Int, zB (-30000) 30000 k0 ∧ zB (-30000) 30000 k1 ∧ zB (-30000) 30000 k2 ∧ zB (-30000) 30000 k3 ∧ va_P (dC, dI) classes (wS ad cI S k0 k1 k2 k3) H) (zAS ad)) ([.ref (ad 0), .int (zi a), .int (zi b)] : List Value).toArray s 0 0 (zAS ad)) (F0 m 53 ls []) := by
    intro z hz k
    induction k with
    | zero =>
      intro i ls H locs k0 k1 k2 k3 hk0 hk1 hk2 hk3 hP hS hb_i  hk hq hl
      exact absurd hk (by have := hb_i.1; have := hb_i.2; omega)
    | succ k ih =>
      intro i ls H locs k0 k1 k2 k3 hk0 hk1 hk2 hk3 hP hS hb_i  hk hq hl
      obtain ⟨hl_i, hh_i⟩ := id hb_i
      replace hq := (f_S_interruption_b_s S a b z k i).symm.trans hq
      refine lv_iload hx hb d_S_interruption_53 (lv_at hl 5 rfl) ?_
      refine lv_iload hx hb d_S_interruption_55 (lv_at hl 4 rfl) ?_
      refine zr_icmp_ge (tgt := 85) hx hb (zB.I hb_i (by decide) (by decide)) (zB.I b_2 (by decide) (by decide)) d_S_interruption_57 (by decide) (fun c_10 => ?_) (fun c_10 => ?_)
      · replace hq := (if_neg c_10).symm.trans hq
        exact hz ls _ _ k0 k1 k2 k3 (zB.w hk0 (by decide) (by decide)) (zB.w hk1 (by decide) (by decide)) (zB.w hk2 (by decide) (by decide)) (zB.w hk3 (by decide) (by decide)) hP hS hq (lv_sub hl [0, 1, 2, 3, 4] rfl)
      · replace hq := (if_pos c_10).symm.trans hq
        refine lv_aload_n hx hb d_S_interruption_60 rfl (lv_at hl 0 rfl) ?_
        refine lv_iload_n hx hb d_S_interruption_61 rfl (lv_at hl 3 rfl) ?_
        refine lv_iload hx hb d_S_interruption_62 (lv_at hl 4 rfl) ?_
        refine lv_iload hx hb d_S_interruption_64 (lv_at hl 5 rfl) ?_
        refine zc_n (va_runV (As := [.int (zi (zmin a b)), .int (zi (zmax a b)), .int (zi i)]) (rest := []) ⟨hx, hb, hml, hown, hts⟩ (k_S_isBankInWay l dC dI ad cI S k0 k1 k2 k3 hI (zmin a b) (zmax a b) i (zB.w b_1 (by decide) (by decide)) (zB.w b_2 (by decide) (by decide)) ⟨by omega, by omega⟩ ) (zcV 3 hts m_125 m_1 m_123 m_124 m_378 rfl rfl q_S_isBankInWay ⟨Nat.le_of_ble_eq_true rfl, Nat.le_of_ble_eq_true rfl⟩) (zpS0 hP hK hN [.int (zi (zmin a b)), .int (zi (zmax a b)), .int (zi i)]) rfl rfl hl.1 rfl (lv_room (Nat.le_of_ble_eq_true rfl)) d_S_interruption_66 ⟨Nat.zero_le _, Nat.zero_le _⟩) ?_
        refine zr_if_eq (tgt := 79) hx hb (zB.I (bb_S_isBankInWay S (zmin a b) (zmax a b) i) (by decide) (by decide)) d_S_interruption_69 (by decide) (fun c_11 => ?_) (fun c_11 => ?_)
        · replace hq := (if_pos c_11).symm.trans hq
          have r_12 : zB 0 0 (f_S_isBankInWay S (zmin a b) (zmax a b) i) := ⟨(Int.le_of_eq c_11.symm), (Int.le_of_eq c_11)⟩
          have b_13 : zB 2 61 (i + 1) := zB.w (zb_add hb_i (zb_c 1)) (by decide) (by decide)
          refine lv_iinc (v := zi (i + 1)) (lv' := [(5, .int (zi (i + 1))), (0, .ref (ad 0)), (1, .int (zi a)), (2, .int (zi b)), (3, .int (zi (zmin a b))), (4, .int (zi (zmax a b)))]) hx hb d_S_interruption_79 hl (k := 5) rfl (zi_add _ _) (by decide) rfl (fun ls hl => ?_)
          refine lv_goto (tgt := 53) hx hb d_S_interruption_82 (by decide) ?_
          exact ih (i + 1) ls _ _ k0 k1 k2 k3 (zB.w hk0 (by decide) (by decide)) (zB.w hk1 (by decide) (by decide)) (zB.w hk2 (by decide) (by decide)) (zB.w hk3 (by decide) (by decide)) hP hS ⟨by have h9 := b_13.1; have h8 := b_13.2; omega, by have h9 := b_13.1; have h8 := b_13.2; omega⟩  (by omega) hq (lv_sub hl [1, 2, 3, 4, 5, 0] rfl)
        · replace hq := (if_neg c_11).symm.trans hq
          have r_14 : zB 1 1 (f_S_isBankInWay S (zmin a b) (zmax a b) i) := ⟨(by have := (bb_S_isBankInWay S (zmin a b) (zmax a b) i).1; omega), (bb_S_isBankInWay S (zmin a b) (zmax a b) i).2⟩
          refine lv_sipush (v := zi 128) hx hb d_S_interruption_72 (by decide) ?_
          refine lv_iload hx hb d_S_interruption_75 (lv_at hl 5 rfl) ?_
          have b_15 : zB 129 188 (128 + i) := zB.w (zb_add (zb_c 128) hb_i) (by decide) (by decide)
          refine zr_iadd hx hb d_S_interruption_77 ?_
          exact zw_i hx hb hr hlocks hq ⟨k0, k1, k2, k3, zB.w hk0 (by decide) (by decide), zB.w hk1 (by decide) (by decide), zB.w hk2 (by decide) (by decide), zB.w hk3 (by decide) (by decide), hP⟩ hS d_S_interruption_78
  refine L_b _ (fun ls H locs k0 k1 k2 k3 hk0 hk1 hk2 hk3 hP hS hq hl => ?_) 61 ((zmin a b) + 1) ls _ _ k0 k1 k2 k3 (zB.w hk0 (by decide) (by decide)) (zB.w hk1 (by decide) (by decide)) (zB.w hk2 (by decide) (by decide)) (zB.w hk3 (by decide) (by decide)) hP hS (zB.w b_3 (by decide) (by decide))  (by omega) hq (lv_sub hl [1, 2, 3, 4, 5, 0] rfl)
  refine lv_aload_n hx hb d_S_interruption_85 rfl (lv_at hl 0 rfl) ?_
  refine va_get (D := (dC, dI)) (ci := 1) (v := .ref (ad 7)) (C := R_S) (T := T_S) (N := 13) hx hb hw i_S hown hK hP 0 rfl rfl 6 (by decide) (hw _ m_37) (fun _ h9 => h9) rfl d_S_interruption_86 ?_
  refine lv_aload_n hx hb d_S_interruption_89 rfl (lv_at hl 0 rfl) ?_
  refine va_get (D := (dC, dI)) (ci := 1) (v := .ref (ad 1)) (C := R_S) (T := T_S) (N := 13) hx hb hw i_S hown hK hP 0 rfl rfl 0 (by decide) (hw _ m_31) (fun _ h9 => h9) rfl d_S_interruption_90 ?_
  refine lv_iload_n hx hb d_S_interruption_93 rfl (lv_at hl 1 rfl) ?_
  refine zr_iald hx hb hK hP 1 0 (cA := cI) (n := 60) (g := S 0) rfl rfl (i := a) (by omega) (by omega) (by decide) d_S_interruption_94 ?_
  refine lv_aload_n hx hb d_S_interruption_95 rfl (lv_at hl 0 rfl) ?_
  refine va_get (D := (dC, dI)) (ci := 1) (v := .ref (ad 2)) (C := R_S) (T := T_S) (N := 13) hx hb hw i_S hown hK hP 0 rfl rfl 1 (by decide) (hw _ m_32) (fun _ h9 => h9) rfl d_S_interruption_96 ?_
  refine lv_iload_n hx hb d_S_interruption_99 rfl (lv_at hl 1 rfl) ?_
  refine zr_iald hx hb hK hP 2 0 (cA := cI) (n := 60) (g := S 1) rfl rfl (i := a) (by omega) (by omega) (by decide) d_S_interruption_100 ?_
  refine lv_aload_n hx hb d_S_interruption_101 rfl (lv_at hl 0 rfl) ?_
  refine va_get (D := (dC, dI)) (ci := 1) (v := .ref (ad 3)) (C := R_S) (T := T_S) (N := 13) hx hb hw i_S hown hK hP 0 rfl rfl 2 (by decide) (hw _ m_33) (fun _ h9 => h9) rfl d_S_interruption_102 ?_
  refine lv_iload_n hx hb d_S_interruption_105 rfl (lv_at hl 1 rfl) ?_
  refine zr_iald hx hb hK hP 3 0 (cA := cI) (n := 60) (g := S 2) rfl rfl (i := a) (by omega) (by omega) (by decide) d_S_interruption_106 ?_
  refine lv_aload_n hx hb d_S_interruption_107 rfl (lv_at hl 0 rfl) ?_
  refine va_get (D := (dC, dI)) (ci := 1) (v := .int (zi (S 11 2))) (C := R_S) (T := T_S) (N := 13) hx hb hw i_S hown hK hP 0 rfl rfl 9 (by decide) (hw _ m_40) (fun _ h9 => h9) rfl d_S_interruption_108 ?_
  have b_16 : zB (-100000) 101000 ((S 2 a) + (S 11 2)) := zB.w (zb_add (iS_a2 hI a) (iS_s2 hI)) (by decide) (by decide)
  refine zr_iadd hx hb d_S_interruption_111 ?_
  refine lv_aload_n hx hb d_S_interruption_112 rfl (lv_at hl 0 rfl) ?_
  refine va_get (D := (dC, dI)) (ci := 1) (v := .ref (ad 1)) (C := R_S) (T := T_S) (N := 13) hx hb hw i_S hown hK hP 0 rfl rfl 0 (by decide) (hw _ m_31) (fun _ h9 => h9) rfl d_S_interruption_113 ?_
  refine lv_iload_n hx hb d_S_interruption_116 rfl (lv_at hl 2 rfl) ?_
  refine zr_iald hx hb hK hP 1 0 (cA := cI) (n := 60) (g := S 0) rfl rfl (i := b) (by omega) (by omega) (by decide) d_S_interruption_117 ?_
  refine lv_aload_n hx hb d_S_interruption_118 rfl (lv_at hl 0 rfl) ?_
  refine va_get (D := (dC, dI)) (ci := 1) (v := .ref (ad 2)) (C := R_S) (T := T_S) (N := 13) hx hb hw i_S hown hK hP 0 rfl rfl 1 (by decide) (hw _ m_32) (fun _ h9 => h9) rfl d_S_interruption_119 ?_
  refine lv_iload_n hx hb d_S_interruption_122 rfl (lv_at hl 2 rfl) ?_
  refine zr_iald hx hb hK hP 2 0 (cA := cI) (n := 60) (g := S 1) rfl rfl (i := b) (by omega) (by omega) (by decide) d_S_interruption_123 ?_
  refine lv_aload_n hx hb d_S_interruption_124 rfl (lv_at hl 0 rfl) ?_
  refine va_get (D := (dC, dI)) (ci := 1) (v := .ref (ad 3)) (C := R_S) (T := T_S) (N := 13) hx hb hw i_S hown hK hP 0 rfl rfl 2 (by decide) (hw _ m_33) (fun _ h9 => h9) rfl d_S_interruption_125 ?_
  refine lv_iload_n hx hb d_S_interruption_128 rfl (lv_at hl 2 rfl) ?_
  refine zr_iald hx hb hK hP 3 0 (cA := cI) (n := 60) (g := S 2) rfl rfl (i := b) (by omega) (by omega) (by decide) d_S_interruption_129 ?_
  refine lv_aload_n hx hb d_S_interruption_130 rfl (lv_at hl 0 rfl) ?_
  refine va_get (D := (dC, dI)) (ci := 1) (v := .int (zi (S 11 3))) (C := R_S) (T := T_S) (N := 13) hx hb hw i_S hown hK hP 0 rfl rfl 10 (by decide) (hw _ m_41) (fun _ h9 => h9) rfl d_S_interruption_131 ?_
  have b_17 : zB (-100000) 101000 ((S 2 b) + (S 11 3)) := zB.w (zb_add (iS_a2 hI b) (iS_s3 hI)) (by decide) (by decide)
  refine zr_iadd hx hb d_S_interruption_134 ?_
  refine zc_w (va_runVN (As := [.int (zi (S 0 a)), .int (zi (S 1 a)), .int (zi ((S 2 a) + (S 11 2))), .int (zi (S 0 b)), .int (zi (S 1 b)), .int (zi ((S 2 b) + (S 11 3)))]) (rest := []) ⟨hx, hb, hml, hown, hts⟩ (k_B_firstAcross l dC dI ad cI S k0 k1 k2 k3 hI hj (zB.w hk0 (by decide) (by decide)) (zB.w hk1 (by decide) (by decide)) (zB.w hk2 (by decide) (by decide)) (zB.w hk3 (by decide) (by decide)) (S 0 a) (S 1 a) ((S 2 a) + (S 11 2)) (S 0 b) (S 1 b) ((S 2 b) + (S 11 3)) (zB.w (iS_a0 hI a) (by decide) (by decide)) (zB.w (iS_a1 hI a) (by decide) (by decide)) (zB.w b_16 (by decide) (by decide)) (zB.w (iS_a0 hI b) (by decide) (by decide)) (zB.w (iS_a1 hI b) (by decide) (by decide)) (zB.w b_17 (by decide) (by decide)) ) (zcN 6 hts m_137 m_2 hN.1 m_136 m_380 rfl rfl q_B_firstAcross ⟨Nat.le_of_ble_eq_true rfl, Nat.le_of_ble_eq_true rfl⟩) (zpS7 hP hK hN [.int (zi (S 0 a)), .int (zi (S 1 a)), .int (zi ((S 2 a) + (S 11 2))), .int (zi (S 0 b)), .int (zi (S 1 b)), .int (zi ((S 2 b) + (S 11 3)))]) rfl rfl hl.1 rfl (lv_room (Nat.le_of_ble_eq_true rfl)) d_S_interruption_135 ⟨Nat.zero_le _, Nat.zero_le _⟩) hS (fun q _ h => h) (fun q h => h) (fun H locs hP hz1 hk1 hS => ?_)
  clear hz1 hk1
  obtain ⟨k0_e_18, k1_e_18, k2_e_18, k3_e_18, hk0_e_18, hk1_e_18, hk2_e_18, hk3_e_18, hP⟩ := hP
  have b_19 : zB (-1) 8 (f_B_firstAcross S (S 0 a) (S 1 a) ((S 2 a) + (S 11 2)) (S 0 b) (S 1 b) ((S 2 b) + (S 11 3))) := br_B_firstAcross S (S 0 a) (S 1 a) ((S 2 a) + (S 11 2)) (S 0 b) (S 1 b) ((S 2 b) + (S 11 3)) hI (zB.w (iS_a0 hI a) (by decide) (by decide)) (zB.w (iS_a1 hI a) (by decide) (by decide)) (zB.w b_16 (by decide) (by decide)) (zB.w (iS_a0 hI b) (by decide) (by decide)) (zB.w (iS_a1 hI b) (by decide) (by decide)) (zB.w b_17 (by decide) (by decide)) 
  refine lv_istore (lv' := [(5, .int (zi (f_B_firstAcross S (S 0 a) (S 1 a) ((S 2 a) + (S 11 2)) (S 0 b) (S 1 b) ((S 2 b) + (S 11 3))))), (0, .ref (ad 0)), (1, .int (zi a)), (2, .int (zi b)), (3, .int (zi (zmin a b))), (4, .int (zi (zmax a b)))]) hx hb d_S_interruption_138 hl (by decide) rfl (fun ls hl => ?_)
  refine lv_iload hx hb d_S_interruption_140 (lv_at hl 0 rfl) ?_
  refine lv_iconst (v := zi (-1)) hx hb d_S_interruption_142 rfl ?_
  refine zr_icmp_ne (tgt := 150) hx hb (zB.I b_19 (by decide) (by decide)) (zB.I (zb_c (-1)) (by decide) (by decide)) d_S_interruption_143 (by decide) (fun c_20 => ?_) (fun c_20 => ?_)
  · replace hq := (if_neg c_20).symm.trans hq
    have r_21 : zB 0 8 (f_B_firstAcross S (S 0 a) (S 1 a) ((S 2 a) + (S 11 2)) (S 0 b) (S 1 b) ((S 2 b) + (S 11 3))) := ⟨(by have := b_19.1; omega), b_19.2⟩
    refine lv_sipush (v := zi 192) hx hb d_S_interruption_150 (by decide) ?_
    refine lv_iload hx hb d_S_interruption_153 (lv_at hl 0 rfl) ?_
    have b_22 : zB 192 200 (192 + (f_B_firstAcross S (S 0 a) (S 1 a) ((S 2 a) + (S 11 2)) (S 0 b) (S 1 b) ((S 2 b) + (S 11 3)))) := zB.w (zb_add (zb_c 192) r_21) (by decide) (by decide)
    refine zr_iadd hx hb d_S_interruption_155 ?_
    exact zw_i hx hb hr hlocks hq ⟨k0_e_18, k1_e_18, k2_e_18, k3_e_18, zB.w hk0_e_18 (by decide) (by decide), zB.w hk1_e_18 (by decide) (by decide), zB.w hk2_e_18 (by decide) (by decide), zB.w hk3_e_18 (by decide) (by decide), hP⟩ hS d_S_interruption_156
  · replace hq := (if_pos c_20).symm.trans hq
    have r_23 : zB (-1) (-1) (f_B_firstAcross S (S 0 a) (S 1 a) ((S 2 a) + (S 11 2)) (S 0 b) (S 1 b) ((S 2 b) + (S 11 3))) := ⟨(Int.le_of_eq c_20.symm), (Int.le_of_eq c_20)⟩
    refine lv_iconst (v := zi 0) hx hb d_S_interruption_146 rfl ?_
    refine lv_goto (tgt := 156) hx hb d_S_interruption_147 (by decide) ?_
    exact zw_i hx hb hr hlocks hq ⟨k0_e_18, k1_e_18, k2_e_18, k3_e_18, zB.w hk0_e_18 (by decide) (by decide), zB.w hk1_e_18 (by decide) (by decide), zB.w hk2_e_18 (by decide) (by decide), zB.w hk3_e_18 (by decide) (by decide), hP⟩ hS d_S_interruption_156
def f_S_sightFrom_l (S : Nat → Int → Int) (a : Int) (v : Int) (z : Int → Int) : Nat → Int → Int → Int
  | 0, _, _ => 0
  | k + 1, w, i => if i < 0 then (z w) else (if i < (S 11 0) then (if (f_S_interruption S a i) = 0 then (f_S_sightFrom_l S a v z k i (i + 1)) else (z w)) else (z w))
theorem f_S_sightFrom_l_s (S : Nat → Int → Int) (a : Int) (v : Int) (z : Int → Int) (k : Nat) (w i : Int) : f_S_sightFrom_l S a v z (k + 1) w i = (if i < 0 then (z w) else (if i < (S 11 0) then (if (f_S_interruption S a i) = 0 then (f_S_sightFrom_l S a v z k i (i + 1)) else (z w)) else (z w))) := rfl
def f_S_sightFrom_l2 (S : Nat → Int → Int) (a : Int) (v : Int) (z : Int → Int) : Nat → Int → Int → Int
  | 0, _, _ => 0
  | k + 1, w, i => if i < 0 then (z w) else (if i < (S 11 0) then (if (f_S_interruption S a i) = 0 then (f_S_sightFrom_l2 S a v z k i (i + (-1))) else (z w)) else (z w))
theorem f_S_sightFrom_l2_s (S : Nat → Int → Int) (a : Int) (v : Int) (z : Int → Int) (k : Nat) (w i : Int) : f_S_sightFrom_l2 S a v z (k + 1) w i = (if i < 0 then (z w) else (if i < (S 11 0) then (if (f_S_interruption S a i) = 0 then (f_S_sightFrom_l2 S a v z k i (i + (-1))) else (z w)) else (z w))) := rfl
def f_S_sightFrom (S : Nat → Int → Int) (a v : Int) : Int := if v = 0 then (f_S_sightFrom_l S a v (fun w => zabs ((S 3 w) - (S 3 a))) 61 a (a + 1)) else (f_S_sightFrom_l2 S a v (fun w => zabs ((S 3 w) - (S 3 a))) 61 a (a + (-1)))
theorem br_S_sightFrom (S : Nat → Int → Int) (a v : Int) (hI : iS S) (_ : zB 0 59 a) (_ : zB 0 1 v) : zB 0 2545620 (f_S_sightFrom S a v) := by
  have hz : ∀ w, zB 0 2545620 (zabs (S 3 w - S 3 a)) := fun w => zb_zabs (zB.w (zb_sub (iS_a3 hI w) (iS_a3 hI a)) (by decide) (by decide))
  have key : ∀ (k : Nat) (w i : Int), zB 0 2545620 (f_S_sightFrom_l S a v (fun w => zabs (S 3 w - S 3 a)) k w i) := by
    intro k
    induction k with
    | zero => intro w i; show zB 0 2545620 0; exact ⟨by decide, by decide⟩
    | succ k ih =>
      intro w i
      rw [f_S_sightFrom_l_s]
      repeat' split
      all_goals first | exact hz _ | exact ih _ _
  have key2 : ∀ (k : Nat) (w i : Int), zB 0 2545620 (f_S_sightFrom_l2 S a v (fun w => zabs (S 3 w - S 3 a)) k w i) := by
    intro k
    induction k with
    | zero => intro w i; show zB 0 2545620 0; exact ⟨by decide, by decide⟩
    | succ k ih =>
      intro w i
      rw [f_S_sightFrom_l2_s]
      repeat' split
      all_goals first | exact hz _ | exact ih _ _
  unfold f_S_sightFrom
  split
  · exact key _ _ _
  · exact key2 _ _ _
set_option maxHeartbeats 4000000 in
set_option maxRecDepth 100000 in
theorem k_S_sightFrom (l : Launch) (dC : Nat → ClassId) (dI : Nat → Nat → Nat) (ad : Nat → Nat) (cI : ClassId) (S : Nat → Int → Int) (k0 k1 k2 k3 : Int) (hI : iS S) (hj : zJ 13 ad) (hb_k0 : zB (-30000) 30000 k0) (hb_k1 : zB (-30000) 30000 k1) (hb_k2 : zB (-30000) 30000 k2) (hb_k3 : zB (-30000) 30000 k3) (a v : Int) (hb_a : zB 0 59 a) (hb_v : zB 0 1 v) : Met l y_S_sightFrom (Cond.code y_S_sightFrom c_S_sightFrom 6 (some .int) :: zT) { frames := 4, cells := 0, slots := 0, locals := 96 } (va_Pc ([.ref (ad 0), .int (zi a), .int (zi v)] : List Value) (zWS dC dI ad cI S k0 k1 k2 k3)) (zQ (some (.int (zi (f_S_sightFrom S a v)))) (fun H => ∃ k0 k1 k2 k3 : Int, zB (-30000) 30000 k0 ∧ zB (-30000) 30000 k1 ∧ zB (-30000) 30000 k2 ∧ zB (-30000) 30000 k3 ∧ va_P (dC, dI) classes (wS ad cI S k0 k1 k2 k3) H) (zAS ad)) 0 0 (zAS ad) := by
  refine zh (cc := c_S_sightFrom) (C := R_S) (by decide) rfl rfl (Nat.le_of_ble_eq_true rfl) ?_
  intro p e s m below meth c ls hx hb hr hlocks hml hown hname hts hl hB
  have hw : ∀ w9 ∈ zT, w9.before ([.ref (ad 0), .int (zi a), .int (zi v)] : List Value).toArray s = true := fun w9 h => hts w9 (List.mem_cons_of_mem _ h)
  obtain ⟨hP, hK, hN⟩ := hB
  obtain ⟨hn0, hn1⟩ := id (iS_s0 hI)
  have hD := zDS hj cI
  have hS : va_S (zAS ad) s.heap s.heap [] := va_S.rf
  obtain ⟨hz0, hz1⟩ := id (iS_s6 hI)
  obtain ⟨hl_a, hh_a⟩ := id hb_a
  obtain ⟨hl_v, hh_v⟩ := id hb_v
  generalize hq : f_S_sightFrom S a v = r
  unfold f_S_sightFrom at hq
  replace hl : lv_has ls 6 [(0, .ref (ad 0)), (1, .int (zi a)), (2, .int (zi v))] := hl
  refine lv_iload_n hx hb d_S_sightFrom_0 rfl (lv_at hl 2 rfl) ?_
  refine zr_if_eq (tgt := 8) hx hb (zB.I hb_v (by decide) (by decide)) d_S_sightFrom_1 (by decide) (fun c_1 => ?_) (fun c_1 => ?_)
  · replace hq := (if_pos c_1).symm.trans hq
    have r_2 : zB 0 0 v := ⟨(Int.le_of_eq c_1.symm), (Int.le_of_eq c_1)⟩
    refine lv_iconst (v := zi 1) hx hb d_S_sightFrom_8 rfl ?_
    refine lv_istore_n (lv' := [(3, .int (zi 1)), (0, .ref (ad 0)), (1, .int (zi a)), (2, .int (zi v))]) hx hb d_S_sightFrom_9 rfl hl (by decide) rfl (fun ls hl => ?_)
    refine lv_iload_n hx hb d_S_sightFrom_10 rfl (lv_at hl 2 rfl) ?_
    refine lv_istore (lv' := [(4, .int (zi a)), (3, .int (zi 1)), (0, .ref (ad 0)), (1, .int (zi a)), (2, .int (zi v))]) hx hb d_S_sightFrom_11 hl (by decide) rfl (fun ls hl => ?_)
    refine lv_iload_n hx hb d_S_sightFrom_13 rfl (lv_at hl 3 rfl) ?_
    refine lv_iload_n hx hb d_S_sightFrom_14 rfl (lv_at hl 1 rfl) ?_
    have b_3 : zB 1 60 (a + 1) := zB.w (zb_add hb_a (zb_c 1)) (by decide) (by decide)
    refine zr_iadd hx hb d_S_sightFrom_15 ?_
    refine lv_istore (lv' := [(5, .int (zi (a + 1))), (4, .int (zi a)), (3, .int (zi 1)), (0, .ref (ad 0)), (1, .int (zi a)), (2, .int (zi v))]) hx hb d_S_sightFrom_16 hl (by decide) rfl (fun ls hl => ?_)
    have L_l : ∀ (z : Int → Int), (∀ (w : Int), zB 0 59 w → ∀ (ls : Array Slot) (H : Heap) (locs : List Loc) (k0 k1 k2 k3 : Int), zB (-30000) 30000 k0 → zB (-30000) 30000 k1 → zB (-30000) 30000 k2 → zB (-30000) 30000 k3 → va_P (dC, dI) classes (wS ad cI S k0 k1 k2 k3) H → va_S (zAS ad) s.heap H locs → z w = r → lv_has ls 6 [(0, .ref (ad 0)), (1, .int (zi a)), (2, .int (zi v)), (3, .int (zi 1)), (4, .int (zi w))] → W p l e { frames := 4, cells := 0, slots := 0, locals := 96 } s m ([.ref (ad 0), .int (zi a), .int (zi v)] : List Value).toArray below meth c H locs 0 0 (MQ below (zQ (some (.int (zi r))) (fun H => ∃ k0 k1 k2 k3 : Int, zB (-30000) 30000 k0 ∧ zB (-30000) 30000 k1 ∧ zB (-30000) 30000 k2 ∧ zB (-30000) 30000 k3 ∧ va_P (dC, dI) classes (wS ad cI S k0 k1 k2 k3) H) (zAS ad)) ([.ref (ad 0), .int (zi a), .int (zi v)] : List Value).toArray s 0 0 (zAS ad)) (F0 m 58 ls [])) → ∀ (k : Nat) (w i : Int) (ls : Array Slot) (H : Heap) (locs : List Loc) (k0 k1 k2 k3 : Int), zB (-30000) 30000 k0 → zB (-30000) 30000 k1 → zB (-30000) 30000 k2 → zB (-30000) 30000 k3 → va_P (dC, dI) classes (wS ad cI S k0 k1 k2 k3) H → va_S (zAS ad) s.heap H locs → zB 0 59 w → zB (-1) 60 i → 60 - i < (k : Int) → f_S_sightFrom_l S a v z k w i = r → lv_has ls 6 [(0, .ref (ad 0)), (1, .int (zi a)), (2, .int (zi v)), (3, .int (zi 1)), (4, .int (zi w)), (5, .int (zi i))] → W p l e { frames := 4, cells := 0, slots := 0, locals := 96 } s m ([.ref (ad 0), .int (zi a), .int (zi v)] : List Value).toArray below meth c H locs 0 0 (MQ below (zQ (some (.int (zi r))) (fun H => ∃ k0 k1 k2 k3 : Int, zB (-30000) 30000 k0 ∧ zB (-30000) 30000 k1 ∧ zB (-30000) 30000 k2 ∧ zB (-30000) 30000 k3 ∧ va_P (dC, dI) classes (wS ad cI S k0 k1 k2 k3) H) (zAS ad)) ([.ref (ad 0), .int (zi a), .int (zi v)] : List Value).toArray s 0 0 (zAS ad)) (F0 m 18 ls []) := by
      intro z hz k
      induction k with
      | zero =>
        intro w i ls H locs k0 k1 k2 k3 hk0 hk1 hk2 hk3 hP hS hb_w hb_i  hk hq hl
        exact absurd hk (by have := hb_w.1; have := hb_w.2; have := hb_i.1; have := hb_i.2; omega)
      | succ k ih =>
        intro w i ls H locs k0 k1 k2 k3 hk0 hk1 hk2 hk3 hP hS hb_w hb_i  hk hq hl
        obtain ⟨hl_w, hh_w⟩ := id hb_w
        obtain ⟨hl_i, hh_i⟩ := id hb_i
        replace hq := (f_S_sightFrom_l_s S a v z k w i).symm.trans hq
        refine lv_iload hx hb d_S_sightFrom_18 (lv_at hl 5 rfl) ?_
        refine zr_if_lt (tgt := 58) hx hb (zB.I hb_i (by decide) (by decide)) d_S_sightFrom_20 (by decide) (fun c_4 => ?_) (fun c_4 => ?_)
        · replace hq := (if_pos c_4).symm.trans hq
          have r_5 : zB (-1) (-1) i := ⟨hb_i.1, (Int.le_sub_one_of_lt c_4)⟩
          exact hz w (zB.w hb_w (by decide) (by decide)) ls _ _ k0 k1 k2 k3 (zB.w hk0 (by decide) (by decide)) (zB.w hk1 (by decide) (by decide)) (zB.w hk2 (by decide) (by decide)) (zB.w hk3 (by decide) (by decide)) hP hS hq (lv_sub hl [0, 1, 2, 3, 4] rfl)
        · replace hq := (if_neg c_4).symm.trans hq
          have r_6 : zB 0 60 i := ⟨(Int.not_lt.mp c_4), hb_i.2⟩
          refine lv_iload hx hb d_S_sightFrom_23 (lv_at hl 5 rfl) ?_
          refine lv_aload_n hx hb d_S_sightFrom_25 rfl (lv_at hl 0 rfl) ?_
          refine va_get (D := (dC, dI)) (ci := 1) (v := .int (zi (S 11 0))) (C := R_S) (T := T_S) (N := 13) hx hb hw i_S hown hK hP 0 rfl rfl 7 (by decide) (hw _ m_38) (fun _ h9 => h9) rfl d_S_sightFrom_26 ?_
          refine zr_icmp_ge (tgt := 58) hx hb (zB.I r_6 (by decide) (by decide)) (zB.I (iS_s0 hI) (by decide) (by decide)) d_S_sightFrom_29 (by decide) (fun c_7 => ?_) (fun c_7 => ?_)
          · replace hq := (if_neg c_7).symm.trans hq
            exact hz w (zB.w hb_w (by decide) (by decide)) ls _ _ k0 k1 k2 k3 (zB.w hk0 (by decide) (by decide)) (zB.w hk1 (by decide) (by decide)) (zB.w hk2 (by decide) (by decide)) (zB.w hk3 (by decide) (by decide)) hP hS hq (lv_sub hl [0, 1, 2, 3, 4] rfl)
          · replace hq := (if_pos c_7).symm.trans hq
            refine lv_aload_n hx hb d_S_sightFrom_32 rfl (lv_at hl 0 rfl) ?_
            refine lv_iload_n hx hb d_S_sightFrom_33 rfl (lv_at hl 1 rfl) ?_
            refine lv_iload hx hb d_S_sightFrom_34 (lv_at hl 5 rfl) ?_
            refine zc_w (va_runV (As := [.int (zi a), .int (zi i)]) (rest := []) ⟨hx, hb, hml, hown, hts⟩ (k_S_interruption l dC dI ad cI S k0 k1 k2 k3 hI hj (zB.w hk0 (by decide) (by decide)) (zB.w hk1 (by decide) (by decide)) (zB.w hk2 (by decide) (by decide)) (zB.w hk3 (by decide) (by decide)) a i (zB.w hb_a (by decide) (by decide)) ⟨by omega, by omega⟩ ) (zcV 2 hts m_113 m_1 m_111 m_112 m_376 rfl rfl q_S_interruption ⟨Nat.le_of_ble_eq_true rfl, Nat.le_of_ble_eq_true rfl⟩) (zpS0 hP hK hN [.int (zi a), .int (zi i)]) rfl rfl hl.1 rfl (lv_room (Nat.le_of_ble_eq_true rfl)) d_S_sightFrom_36 ⟨Nat.zero_le _, Nat.zero_le _⟩) hS (fun q _ h => h) (fun q h => h) (fun H locs hP hz1 hk1 hS => ?_)
            clear hz1 hk1
            obtain ⟨k0_e_8, k1_e_8, k2_e_8, k3_e_8, hk0_e_8, hk1_e_8, hk2_e_8, hk3_e_8, hP⟩ := hP
            have b_9 : zB 0 255 (f_S_interruption S a i) := br_S_interruption S a i hI (zB.w hb_a (by decide) (by decide)) ⟨by omega, by omega⟩ 
            refine zr_if_eq (tgt := 45) hx hb (zB.I b_9 (by decide) (by decide)) d_S_sightFrom_39 (by decide) (fun c_10 => ?_) (fun c_10 => ?_)
            · replace hq := (if_pos c_10).symm.trans hq
              have r_11 : zB 0 0 (f_S_interruption S a i) := ⟨(Int.le_of_eq c_10.symm), (Int.le_of_eq c_10)⟩
              refine lv_iload hx hb d_S_sightFrom_45 (lv_at hl 5 rfl) ?_
              refine lv_istore (lv' := [(4, .int (zi i)), (0, .ref (ad 0)), (1, .int (zi a)), (2, .int (zi v)), (3, .int (zi 1)), (5, .int (zi i))]) hx hb d_S_sightFrom_47 hl (by decide) rfl (fun ls hl => ?_)
              refine lv_iload hx hb d_S_sightFrom_49 (lv_at hl 5 rfl) ?_
              refine lv_iload_n hx hb d_S_sightFrom_51 rfl (lv_at hl 4 rfl) ?_
              have b_12 : zB 1 61 (i + 1) := zB.w (zb_add r_6 (zb_c 1)) (by decide) (by decide)
              refine zr_iadd hx hb d_S_sightFrom_52 ?_
              refine lv_istore (lv' := [(5, .int (zi (i + 1))), (4, .int (zi i)), (0, .ref (ad 0)), (1, .int (zi a)), (2, .int (zi v)), (3, .int (zi 1))]) hx hb d_S_sightFrom_53 hl (by decide) rfl (fun ls hl => ?_)
              refine lv_goto (tgt := 18) hx hb d_S_sightFrom_55 (by decide) ?_
              exact ih i (i + 1) ls _ _ k0_e_8 k1_e_8 k2_e_8 k3_e_8 (zB.w hk0_e_8 (by decide) (by decide)) (zB.w hk1_e_8 (by decide) (by decide)) (zB.w hk2_e_8 (by decide) (by decide)) (zB.w hk3_e_8 (by decide) (by decide)) hP hS ⟨by have h9 := r_6.1; have h8 := r_6.2; omega, by have h9 := r_6.1; have h8 := r_6.2; omega⟩ ⟨by have h9 := b_12.1; have h8 := b_12.2; omega, by have h9 := b_12.1; have h8 := b_12.2; omega⟩  (by omega) hq (lv_sub hl [2, 3, 4, 5, 1, 0] rfl)
            · replace hq := (if_neg c_10).symm.trans hq
              have r_13 : zB 1 255 (f_S_interruption S a i) := ⟨(by have := b_9.1; omega), b_9.2⟩
              refine lv_goto (tgt := 58) hx hb d_S_sightFrom_42 (by decide) ?_
              exact hz w (zB.w hb_w (by decide) (by decide)) ls _ _ k0_e_8 k1_e_8 k2_e_8 k3_e_8 (zB.w hk0_e_8 (by decide) (by decide)) (zB.w hk1_e_8 (by decide) (by decide)) (zB.w hk2_e_8 (by decide) (by decide)) (zB.w hk3_e_8 (by decide) (by decide)) hP hS hq (lv_sub hl [0, 1, 2, 3, 4] rfl)
    refine L_l _ (fun w hb_w ls H locs k0 k1 k2 k3 hk0 hk1 hk2 hk3 hP hS hq hl => ?_) 61 a (a + 1) ls _ _ k0 k1 k2 k3 (zB.w hb_k0 (by decide) (by decide)) (zB.w hb_k1 (by decide) (by decide)) (zB.w hb_k2 (by decide) (by decide)) (zB.w hb_k3 (by decide) (by decide)) hP hS (zB.w hb_a (by decide) (by decide)) (zB.w b_3 (by decide) (by decide))  (by omega) hq (lv_sub hl [3, 4, 5, 2, 1, 0] rfl)
    obtain ⟨hl_w, hh_w⟩ := id hb_w
    refine lv_aload_n hx hb d_S_sightFrom_58 rfl (lv_at hl 0 rfl) ?_
    refine va_get (D := (dC, dI)) (ci := 1) (v := .ref (ad 4)) (C := R_S) (T := T_S) (N := 13) hx hb hw i_S hown hK hP 0 rfl rfl 3 (by decide) (hw _ m_34) (fun _ h9 => h9) rfl d_S_sightFrom_59 ?_
    refine lv_iload hx hb d_S_sightFrom_62 (lv_at hl 4 rfl) ?_
    refine zr_iald hx hb hK hP 4 0 (cA := cI) (n := 60) (g := S 3) rfl rfl (i := w) (by omega) (by omega) (by decide) d_S_sightFrom_64 ?_
    refine lv_aload_n hx hb d_S_sightFrom_65 rfl (lv_at hl 0 rfl) ?_
    refine va_get (D := (dC, dI)) (ci := 1) (v := .ref (ad 4)) (C := R_S) (T := T_S) (N := 13) hx hb hw i_S hown hK hP 0 rfl rfl 3 (by decide) (hw _ m_34) (fun _ h9 => h9) rfl d_S_sightFrom_66 ?_
    refine lv_iload_n hx hb d_S_sightFrom_69 rfl (lv_at hl 1 rfl) ?_
    refine zr_iald hx hb hK hP 4 0 (cA := cI) (n := 60) (g := S 3) rfl rfl (i := a) (by omega) (by omega) (by decide) d_S_sightFrom_70 ?_
    have b_14 : zB (-2545620) 2545620 ((S 3 w) - (S 3 a)) := zB.w (zb_sub (iS_a3 hI w) (iS_a3 hI a)) (by decide) (by decide)
    refine zr_isub hx hb d_S_sightFrom_71 ?_
    refine zr_abs hx hb (hml.trans hl.1.symm) hown (hw _ m_120) (hw _ m_121) (hw _ m_4) (hw _ m_122) (Nat.le_of_ble_eq_true rfl) (Nat.le_of_ble_eq_true rfl) (Nat.zero_le _) (Nat.zero_le _) (zB.I b_14 (by decide) (by decide)) d_S_sightFrom_72 ?_
    have b_15 : zB 0 2545620 (zabs ((S 3 w) - (S 3 a))) := zB.w (zb_zabs (A := 2545620) (zB.w b_14 (by decide) (by decide))) (by decide) (by decide)
    obtain ⟨hl_b_15, hh_b_15⟩ := id b_15
    exact zw_i hx hb hr hlocks hq ⟨k0, k1, k2, k3, zB.w hk0 (by decide) (by decide), zB.w hk1 (by decide) (by decide), zB.w hk2 (by decide) (by decide), zB.w hk3 (by decide) (by decide), hP⟩ hS d_S_sightFrom_75
  · replace hq := (if_neg c_1).symm.trans hq
    have r_16 : zB 1 1 v := ⟨(by have := hb_v.1; omega), hb_v.2⟩
    refine lv_iconst (v := zi (-1)) hx hb d_S_sightFrom_4 rfl ?_
    refine lv_goto (tgt := 9) hx hb d_S_sightFrom_5 (by decide) ?_
    refine lv_istore_n (lv' := [(3, .int (zi (-1))), (0, .ref (ad 0)), (1, .int (zi a)), (2, .int (zi v))]) hx hb d_S_sightFrom_9 rfl hl (by decide) rfl (fun ls hl => ?_)
    refine lv_iload_n hx hb d_S_sightFrom_10 rfl (lv_at hl 2 rfl) ?_
    refine lv_istore (lv' := [(4, .int (zi a)), (3, .int (zi (-1))), (0, .ref (ad 0)), (1, .int (zi a)), (2, .int (zi v))]) hx hb d_S_sightFrom_11 hl (by decide) rfl (fun ls hl => ?_)
    refine lv_iload_n hx hb d_S_sightFrom_13 rfl (lv_at hl 3 rfl) ?_
    refine lv_iload_n hx hb d_S_sightFrom_14 rfl (lv_at hl 1 rfl) ?_
    have b_17 : zB (-1) 58 (a + (-1)) := zB.w (zb_add hb_a (zb_c (-1))) (by decide) (by decide)
    refine zr_iadd hx hb d_S_sightFrom_15 ?_
    refine lv_istore (lv' := [(5, .int (zi (a + (-1)))), (4, .int (zi a)), (3, .int (zi (-1))), (0, .ref (ad 0)), (1, .int (zi a)), (2, .int (zi v))]) hx hb d_S_sightFrom_16 hl (by decide) rfl (fun ls hl => ?_)
    have L_l2 : ∀ (z : Int → Int), (∀ (w : Int), zB 0 59 w → ∀ (ls : Array Slot) (H : Heap) (locs : List Loc) (k0 k1 k2 k3 : Int), zB (-30000) 30000 k0 → zB (-30000) 30000 k1 → zB (-30000) 30000 k2 → zB (-30000) 30000 k3 → va_P (dC, dI) classes (wS ad cI S k0 k1 k2 k3) H → va_S (zAS ad) s.heap H locs → z w = r → lv_has ls 6 [(0, .ref (ad 0)), (1, .int (zi a)), (2, .int (zi v)), (3, .int (zi (-1))), (4, .int (zi w))] → W p l e { frames := 4, cells := 0, slots := 0, locals := 96 } s m ([.ref (ad 0), .int (zi a), .int (zi v)] : List Value).toArray below meth c H locs 0 0 (MQ below (zQ (some (.int (zi r))) (fun H => ∃ k0 k1 k2 k3 : Int, zB (-30000) 30000 k0 ∧ zB (-30000) 30000 k1 ∧ zB (-30000) 30000 k2 ∧ zB (-30000) 30000 k3 ∧ va_P (dC, dI) classes (wS ad cI S k0 k1 k2 k3) H) (zAS ad)) ([.ref (ad 0), .int (zi a), .int (zi v)] : List Value).toArray s 0 0 (zAS ad)) (F0 m 58 ls [])) → ∀ (k : Nat) (w i : Int) (ls : Array Slot) (H : Heap) (locs : List Loc) (k0 k1 k2 k3 : Int), zB (-30000) 30000 k0 → zB (-30000) 30000 k1 → zB (-30000) 30000 k2 → zB (-30000) 30000 k3 → va_P (dC, dI) classes (wS ad cI S k0 k1 k2 k3) H → va_S (zAS ad) s.heap H locs → zB 0 59 w → zB (-1) 60 i → i + 1 < (k : Int) → f_S_sightFrom_l2 S a v z k w i = r → lv_has ls 6 [(0, .ref (ad 0)), (1, .int (zi a)), (2, .int (zi v)), (3, .int (zi (-1))), (4, .int (zi w)), (5, .int (zi i))] → W p l e { frames := 4, cells := 0, slots := 0, locals := 96 } s m ([.ref (ad 0), .int (zi a), .int (zi v)] : List Value).toArray below meth c H locs 0 0 (MQ below (zQ (some (.int (zi r))) (fun H => ∃ k0 k1 k2 k3 : Int, zB (-30000) 30000 k0 ∧ zB (-30000) 30000 k1 ∧ zB (-30000) 30000 k2 ∧ zB (-30000) 30000 k3 ∧ va_P (dC, dI) classes (wS ad cI S k0 k1 k2 k3) H) (zAS ad)) ([.ref (ad 0), .int (zi a), .int (zi v)] : List Value).toArray s 0 0 (zAS ad)) (F0 m 18 ls []) := by
      intro z hz k
      induction k with
      | zero =>
        intro w i ls H locs k0 k1 k2 k3 hk0 hk1 hk2 hk3 hP hS hb_w hb_i  hk hq hl
        exact absurd hk (by have := hb_w.1; have := hb_w.2; have := hb_i.1; have := hb_i.2; omega)
      | succ k ih =>
        intro w i ls H locs k0 k1 k2 k3 hk0 hk1 hk2 hk3 hP hS hb_w hb_i  hk hq hl
        obtain ⟨hl_w, hh_w⟩ := id hb_w
        obtain ⟨hl_i, hh_i⟩ := id hb_i
        replace hq := (f_S_sightFrom_l2_s S a v z k w i).symm.trans hq
        refine lv_iload hx hb d_S_sightFrom_18 (lv_at hl 5 rfl) ?_
        refine zr_if_lt (tgt := 58) hx hb (zB.I hb_i (by decide) (by decide)) d_S_sightFrom_20 (by decide) (fun c_18 => ?_) (fun c_18 => ?_)
        · replace hq := (if_pos c_18).symm.trans hq
          have r_19 : zB (-1) (-1) i := ⟨hb_i.1, (Int.le_sub_one_of_lt c_18)⟩
          exact hz w (zB.w hb_w (by decide) (by decide)) ls _ _ k0 k1 k2 k3 (zB.w hk0 (by decide) (by decide)) (zB.w hk1 (by decide) (by decide)) (zB.w hk2 (by decide) (by decide)) (zB.w hk3 (by decide) (by decide)) hP hS hq (lv_sub hl [0, 1, 2, 3, 4] rfl)
        · replace hq := (if_neg c_18).symm.trans hq
          have r_20 : zB 0 60 i := ⟨(Int.not_lt.mp c_18), hb_i.2⟩
          refine lv_iload hx hb d_S_sightFrom_23 (lv_at hl 5 rfl) ?_
          refine lv_aload_n hx hb d_S_sightFrom_25 rfl (lv_at hl 0 rfl) ?_
          refine va_get (D := (dC, dI)) (ci := 1) (v := .int (zi (S 11 0))) (C := R_S) (T := T_S) (N := 13) hx hb hw i_S hown hK hP 0 rfl rfl 7 (by decide) (hw _ m_38) (fun _ h9 => h9) rfl d_S_sightFrom_26 ?_
          refine zr_icmp_ge (tgt := 58) hx hb (zB.I r_20 (by decide) (by decide)) (zB.I (iS_s0 hI) (by decide) (by decide)) d_S_sightFrom_29 (by decide) (fun c_21 => ?_) (fun c_21 => ?_)
          · replace hq := (if_neg c_21).symm.trans hq
            exact hz w (zB.w hb_w (by decide) (by decide)) ls _ _ k0 k1 k2 k3 (zB.w hk0 (by decide) (by decide)) (zB.w hk1 (by decide) (by decide)) (zB.w hk2 (by decide) (by decide)) (zB.w hk3 (by decide) (by decide)) hP hS hq (lv_sub hl [0, 1, 2, 3, 4] rfl)
          · replace hq := (if_pos c_21).symm.trans hq
            refine lv_aload_n hx hb d_S_sightFrom_32 rfl (lv_at hl 0 rfl) ?_
            refine lv_iload_n hx hb d_S_sightFrom_33 rfl (lv_at hl 1 rfl) ?_
            refine lv_iload hx hb d_S_sightFrom_34 (lv_at hl 5 rfl) ?_
            refine zc_w (va_runV (As := [.int (zi a), .int (zi i)]) (rest := []) ⟨hx, hb, hml, hown, hts⟩ (k_S_interruption l dC dI ad cI S k0 k1 k2 k3 hI hj (zB.w hk0 (by decide) (by decide)) (zB.w hk1 (by decide) (by decide)) (zB.w hk2 (by decide) (by decide)) (zB.w hk3 (by decide) (by decide)) a i (zB.w hb_a (by decide) (by decide)) ⟨by omega, by omega⟩ ) (zcV 2 hts m_113 m_1 m_111 m_112 m_376 rfl rfl q_S_interruption ⟨Nat.le_of_ble_eq_true rfl, Nat.le_of_ble_eq_true rfl⟩) (zpS0 hP hK hN [.int (zi a), .int (zi i)]) rfl rfl hl.1 rfl (lv_room (Nat.le_of_ble_eq_true rfl)) d_S_sightFrom_36 ⟨Nat.zero_le _, Nat.zero_le _⟩) hS (fun q _ h => h) (fun q h => h) (fun H locs hP hz1 hk1 hS => ?_)
            clear hz1 hk1
            obtain ⟨k0_e_22, k1_e_22, k2_e_22, k3_e_22, hk0_e_22, hk1_e_22, hk2_e_22, hk3_e_22, hP⟩ := hP
            have b_23 : zB 0 255 (f_S_interruption S a i) := br_S_interruption S a i hI (zB.w hb_a (by decide) (by decide)) ⟨by omega, by omega⟩ 
            refine zr_if_eq (tgt := 45) hx hb (zB.I b_23 (by decide) (by decide)) d_S_sightFrom_39 (by decide) (fun c_24 => ?_) (fun c_24 => ?_)
            · replace hq := (if_pos c_24).symm.trans hq
              have r_25 : zB 0 0 (f_S_interruption S a i) := ⟨(Int.le_of_eq c_24.symm), (Int.le_of_eq c_24)⟩
              refine lv_iload hx hb d_S_sightFrom_45 (lv_at hl 5 rfl) ?_
              refine lv_istore (lv' := [(4, .int (zi i)), (0, .ref (ad 0)), (1, .int (zi a)), (2, .int (zi v)), (3, .int (zi (-1))), (5, .int (zi i))]) hx hb d_S_sightFrom_47 hl (by decide) rfl (fun ls hl => ?_)
              refine lv_iload hx hb d_S_sightFrom_49 (lv_at hl 5 rfl) ?_
              refine lv_iload_n hx hb d_S_sightFrom_51 rfl (lv_at hl 4 rfl) ?_
              have b_26 : zB (-1) 59 (i + (-1)) := zB.w (zb_add r_20 (zb_c (-1))) (by decide) (by decide)
              refine zr_iadd hx hb d_S_sightFrom_52 ?_
              refine lv_istore (lv' := [(5, .int (zi (i + (-1)))), (4, .int (zi i)), (0, .ref (ad 0)), (1, .int (zi a)), (2, .int (zi v)), (3, .int (zi (-1)))]) hx hb d_S_sightFrom_53 hl (by decide) rfl (fun ls hl => ?_)
              refine lv_goto (tgt := 18) hx hb d_S_sightFrom_55 (by decide) ?_
              exact ih i (i + (-1)) ls _ _ k0_e_22 k1_e_22 k2_e_22 k3_e_22 (zB.w hk0_e_22 (by decide) (by decide)) (zB.w hk1_e_22 (by decide) (by decide)) (zB.w hk2_e_22 (by decide) (by decide)) (zB.w hk3_e_22 (by decide) (by decide)) hP hS ⟨by have h9 := r_20.1; have h8 := r_20.2; omega, by have h9 := r_20.1; have h8 := r_20.2; omega⟩ (zB.w b_26 (by decide) (by decide))  (by omega) hq (lv_sub hl [2, 3, 4, 5, 1, 0] rfl)
            · replace hq := (if_neg c_24).symm.trans hq
              have r_27 : zB 1 255 (f_S_interruption S a i) := ⟨(by have := b_23.1; omega), b_23.2⟩
              refine lv_goto (tgt := 58) hx hb d_S_sightFrom_42 (by decide) ?_
              exact hz w (zB.w hb_w (by decide) (by decide)) ls _ _ k0_e_22 k1_e_22 k2_e_22 k3_e_22 (zB.w hk0_e_22 (by decide) (by decide)) (zB.w hk1_e_22 (by decide) (by decide)) (zB.w hk2_e_22 (by decide) (by decide)) (zB.w hk3_e_22 (by decide) (by decide)) hP hS hq (lv_sub hl [0, 1, 2, 3, 4] rfl)
    refine L_l2 _ (fun w hb_w ls H locs k0 k1 k2 k3 hk0 hk1 hk2 hk3 hP hS hq hl => ?_) 61 a (a + (-1)) ls _ _ k0 k1 k2 k3 (zB.w hb_k0 (by decide) (by decide)) (zB.w hb_k1 (by decide) (by decide)) (zB.w hb_k2 (by decide) (by decide)) (zB.w hb_k3 (by decide) (by decide)) hP hS (zB.w hb_a (by decide) (by decide)) (zB.w b_17 (by decide) (by decide))  (by omega) hq (lv_sub hl [3, 4, 5, 2, 1, 0] rfl)
    obtain ⟨hl_w, hh_w⟩ := id hb_w
    refine lv_aload_n hx hb d_S_sightFrom_58 rfl (lv_at hl 0 rfl) ?_
    refine va_get (D := (dC, dI)) (ci := 1) (v := .ref (ad 4)) (C := R_S) (T := T_S) (N := 13) hx hb hw i_S hown hK hP 0 rfl rfl 3 (by decide) (hw _ m_34) (fun _ h9 => h9) rfl d_S_sightFrom_59 ?_
    refine lv_iload hx hb d_S_sightFrom_62 (lv_at hl 4 rfl) ?_
    refine zr_iald hx hb hK hP 4 0 (cA := cI) (n := 60) (g := S 3) rfl rfl (i := w) (by omega) (by omega) (by decide) d_S_sightFrom_64 ?_
    refine lv_aload_n hx hb d_S_sightFrom_65 rfl (lv_at hl 0 rfl) ?_
    refine va_get (D := (dC, dI)) (ci := 1) (v := .ref (ad 4)) (C := R_S) (T := T_S) (N := 13) hx hb hw i_S hown hK hP 0 rfl rfl 3 (by decide) (hw _ m_34) (fun _ h9 => h9) rfl d_S_sightFrom_66 ?_
    refine lv_iload_n hx hb d_S_sightFrom_69 rfl (lv_at hl 1 rfl) ?_
    refine zr_iald hx hb hK hP 4 0 (cA := cI) (n := 60) (g := S 3) rfl rfl (i := a) (by omega) (by omega) (by decide) d_S_sightFrom_70 ?_
    have b_28 : zB (-2545620) 2545620 ((S 3 w) - (S 3 a)) := zB.w (zb_sub (iS_a3 hI w) (iS_a3 hI a)) (by decide) (by decide)
    refine zr_isub hx hb d_S_sightFrom_71 ?_
    refine zr_abs hx hb (hml.trans hl.1.symm) hown (hw _ m_120) (hw _ m_121) (hw _ m_4) (hw _ m_122) (Nat.le_of_ble_eq_true rfl) (Nat.le_of_ble_eq_true rfl) (Nat.zero_le _) (Nat.zero_le _) (zB.I b_28 (by decide) (by decide)) d_S_sightFrom_72 ?_
    have b_29 : zB 0 2545620 (zabs ((S 3 w) - (S 3 a))) := zB.w (zb_zabs (A := 2545620) (zB.w b_28 (by decide) (by decide))) (by decide) (by decide)
    obtain ⟨hl_b_29, hh_b_29⟩ := id b_29
    exact zw_i hx hb hr hlocks hq ⟨k0, k1, k2, k3, zB.w hk0 (by decide) (by decide), zB.w hk1 (by decide) (by decide), zB.w hk2 (by decide) (by decide), zB.w hk3 (by decide) (by decide), hP⟩ hS d_S_sightFrom_75
def f_S_isBlind (S : Nat → Int → Int) (a v : Int) : Int := if (f_S_roadBeyond S a v) < (f_S_needWith S a v (S 4 a)) then (0) else (if (f_S_sightFrom S a v) < (f_S_needWith S a v (S 4 a)) then (1) else (0))
theorem bb_S_isBlind (S : Nat → Int → Int) (a v : Int) : zB 0 1 (f_S_isBlind S a v) := by
  unfold f_S_isBlind
  repeat' split
  all_goals first | exact ⟨by decide, by decide⟩  | apply bb_S_isWithin
set_option maxHeartbeats 4000000 in
set_option maxRecDepth 100000 in
theorem k_S_isBlind (l : Launch) (dC : Nat → ClassId) (dI : Nat → Nat → Nat) (ad : Nat → Nat) (cI : ClassId) (S : Nat → Int → Int) (k0 k1 k2 k3 : Int) (hI : iS S) (hj : zJ 13 ad) (hb_k0 : zB (-30000) 30000 k0) (hb_k1 : zB (-30000) 30000 k1) (hb_k2 : zB (-30000) 30000 k2) (hb_k3 : zB (-30000) 30000 k3) (a v : Int) (hb_a : zB 0 59 a) (hb_v : zB 0 1 v) (hy_0 : 0 < S 11 0) : Met l y_S_isBlind (Cond.code y_S_isBlind c_S_isBlind 4 (some .boolean) :: zT) { frames := 5, cells := 0, slots := 0, locals := 121 } (va_Pc ([.ref (ad 0), .int (zi a), .int (zi v)] : List Value) (zWS dC dI ad cI S k0 k1 k2 k3)) (zQ (some (.int (zi (f_S_isBlind S a v)))) (fun H => ∃ k0 k1 k2 k3 : Int, zB (-30000) 30000 k0 ∧ zB (-30000) 30000 k1 ∧ zB (-30000) 30000 k2 ∧ zB (-30000) 30000 k3 ∧ va_P (dC, dI) classes (wS ad cI S k0 k1 k2 k3) H) (zAS ad)) 0 0 (zAS ad) := by
  refine zh (cc := c_S_isBlind) (C := R_S) (by decide) rfl rfl (Nat.le_of_ble_eq_true rfl) ?_
  intro p e s m below meth c ls hx hb hr hlocks hml hown hname hts hl hB
  have hw : ∀ w9 ∈ zT, w9.before ([.ref (ad 0), .int (zi a), .int (zi v)] : List Value).toArray s = true := fun w9 h => hts w9 (List.mem_cons_of_mem _ h)
  obtain ⟨hP, hK, hN⟩ := hB
  obtain ⟨hn0, hn1⟩ := id (iS_s0 hI)
  have hD := zDS hj cI
  have hS : va_S (zAS ad) s.heap s.heap [] := va_S.rf
  obtain ⟨hz0, hz1⟩ := id (iS_s6 hI)
  obtain ⟨hl_a, hh_a⟩ := id hb_a
  obtain ⟨hl_v, hh_v⟩ := id hb_v
  generalize hq : f_S_isBlind S a v = r
  unfold f_S_isBlind at hq
  replace hl : lv_has ls 4 [(0, .ref (ad 0)), (1, .int (zi a)), (2, .int (zi v))] := hl
  refine lv_aload_n hx hb d_S_isBlind_0 rfl (lv_at hl 0 rfl) ?_
  refine lv_iload_n hx hb d_S_isBlind_1 rfl (lv_at hl 1 rfl) ?_
  refine lv_iload_n hx hb d_S_isBlind_2 rfl (lv_at hl 2 rfl) ?_
  refine lv_aload_n hx hb d_S_isBlind_3 rfl (lv_at hl 0 rfl) ?_
  refine va_get (D := (dC, dI)) (ci := 1) (v := .ref (ad 5)) (C := R_S) (T := T_S) (N := 13) hx hb hw i_S hown hK hP 0 rfl rfl 4 (by decide) (hw _ m_35) (fun _ h9 => h9) rfl d_S_isBlind_4 ?_
  refine lv_iload_n hx hb d_S_isBlind_7 rfl (lv_at hl 1 rfl) ?_
  refine zr_iald hx hb hK hP 5 0 (cA := cI) (n := 60) (g := S 4) rfl rfl (i := a) (by omega) (by omega) (by decide) d_S_isBlind_8 ?_
  refine zc_n (va_runV (As := [.int (zi a), .int (zi v), .int (zi (S 4 a))]) (rest := []) ⟨hx, hb, hml, hown, hts⟩ (k_S_needWith l dC dI ad cI S k0 k1 k2 k3 hI a v (S 4 a) (zB.w hb_a (by decide) (by decide)) (zB.w hb_v (by decide) (by decide)) (zB.w (iS_a4 hI a) (by decide) (by decide)) ) (zcV 3 hts m_161 m_1 m_159 m_160 m_385 rfl rfl q_S_needWith ⟨Nat.le_of_ble_eq_true rfl, Nat.le_of_ble_eq_true rfl⟩) (zpS0 hP hK hN [.int (zi a), .int (zi v), .int (zi (S 4 a))]) rfl rfl hl.1 rfl (lv_room (Nat.le_of_ble_eq_true rfl)) d_S_isBlind_9 ⟨Nat.zero_le _, Nat.zero_le _⟩) ?_
  have b_1 : zB 0 82716 (f_S_needWith S a v (S 4 a)) := br_S_needWith S a v (S 4 a) hI (zB.w hb_a (by decide) (by decide)) (zB.w hb_v (by decide) (by decide)) (zB.w (iS_a4 hI a) (by decide) (by decide)) 
  refine lv_istore_n (lv' := [(3, .int (zi (f_S_needWith S a v (S 4 a)))), (0, .ref (ad 0)), (1, .int (zi a)), (2, .int (zi v))]) hx hb d_S_isBlind_12 rfl hl (by decide) rfl (fun ls hl => ?_)
  refine lv_aload_n hx hb d_S_isBlind_13 rfl (lv_at hl 1 rfl) ?_
  refine lv_iload_n hx hb d_S_isBlind_14 rfl (lv_at hl 2 rfl) ?_
  refine lv_iload_n hx hb d_S_isBlind_15 rfl (lv_at hl 3 rfl) ?_
  refine zc_n (va_runV (As := [.int (zi a), .int (zi v)]) (rest := []) ⟨hx, hb, hml, hown, hts⟩ (k_S_roadBeyond l dC dI ad cI S k0 k1 k2 k3 hI a v (zB.w hb_a (by decide) (by decide)) (zB.w hb_v (by decide) (by decide)) (by omega)) (zcV 2 hts m_183 m_1 m_181 m_182 m_388 rfl rfl q_S_roadBeyond ⟨Nat.le_of_ble_eq_true rfl, Nat.le_of_ble_eq_true rfl⟩) (zpS0 hP hK hN [.int (zi a), .int (zi v)]) rfl rfl hl.1 rfl (lv_room (Nat.le_of_ble_eq_true rfl)) d_S_isBlind_16 ⟨Nat.zero_le _, Nat.zero_le _⟩) ?_
  have b_2 : zB (-2545620) 2545620 (f_S_roadBeyond S a v) := br_S_roadBeyond S a v hI (zB.w hb_a (by decide) (by decide)) (zB.w hb_v (by decide) (by decide)) (by omega)
  refine lv_iload_n hx hb d_S_isBlind_19 rfl (lv_at hl 0 rfl) ?_
  refine zr_icmp_lt (tgt := 37) hx hb (zB.I b_2 (by decide) (by decide)) (zB.I b_1 (by decide) (by decide)) d_S_isBlind_20 (by decide) (fun c_3 => ?_) (fun c_3 => ?_)
  · replace hq := (if_pos c_3).symm.trans hq
    refine lv_iconst (v := zi 0) hx hb d_S_isBlind_37 rfl ?_
    exact zw_z hx hb hr hlocks (zB.w (zb_c 0) (by decide) (by decide)) hq ⟨k0, k1, k2, k3, zB.w hb_k0 (by decide) (by decide), zB.w hb_k1 (by decide) (by decide), zB.w hb_k2 (by decide) (by decide), zB.w hb_k3 (by decide) (by decide), hP⟩ hS d_S_isBlind_38
  · replace hq := (if_neg c_3).symm.trans hq
    refine lv_aload_n hx hb d_S_isBlind_23 rfl (lv_at hl 1 rfl) ?_
    refine lv_iload_n hx hb d_S_isBlind_24 rfl (lv_at hl 2 rfl) ?_
    refine lv_iload_n hx hb d_S_isBlind_25 rfl (lv_at hl 3 rfl) ?_
    refine zc_w (va_runV (As := [.int (zi a), .int (zi v)]) (rest := []) ⟨hx, hb, hml, hown, hts⟩ (k_S_sightFrom l dC dI ad cI S k0 k1 k2 k3 hI hj (zB.w hb_k0 (by decide) (by decide)) (zB.w hb_k1 (by decide) (by decide)) (zB.w hb_k2 (by decide) (by decide)) (zB.w hb_k3 (by decide) (by decide)) a v (zB.w hb_a (by decide) (by decide)) (zB.w hb_v (by decide) (by decide)) ) (zcV 2 hts m_154 m_1 m_152 m_153 m_384 rfl rfl q_S_sightFrom ⟨Nat.le_of_ble_eq_true rfl, Nat.le_of_ble_eq_true rfl⟩) (zpS0 hP hK hN [.int (zi a), .int (zi v)]) rfl rfl hl.1 rfl (lv_room (Nat.le_of_ble_eq_true rfl)) d_S_isBlind_26 ⟨Nat.zero_le _, Nat.zero_le _⟩) hS (fun q _ h => h) (fun q h => h) (fun H locs hP hz1 hk1 hS => ?_)
    clear hz1 hk1
    obtain ⟨k0_e_4, k1_e_4, k2_e_4, k3_e_4, hk0_e_4, hk1_e_4, hk2_e_4, hk3_e_4, hP⟩ := hP
    have b_5 : zB 0 2545620 (f_S_sightFrom S a v) := br_S_sightFrom S a v hI (zB.w hb_a (by decide) (by decide)) (zB.w hb_v (by decide) (by decide)) 
    refine lv_iload_n hx hb d_S_isBlind_29 rfl (lv_at hl 0 rfl) ?_
    refine zr_icmp_ge (tgt := 37) hx hb (zB.I b_5 (by decide) (by decide)) (zB.I b_1 (by decide) (by decide)) d_S_isBlind_30 (by decide) (fun c_6 => ?_) (fun c_6 => ?_)
    · replace hq := (if_neg c_6).symm.trans hq
      refine lv_iconst (v := zi 0) hx hb d_S_isBlind_37 rfl ?_
      exact zw_z hx hb hr hlocks (zB.w (zb_c 0) (by decide) (by decide)) hq ⟨k0_e_4, k1_e_4, k2_e_4, k3_e_4, zB.w hk0_e_4 (by decide) (by decide), zB.w hk1_e_4 (by decide) (by decide), zB.w hk2_e_4 (by decide) (by decide), zB.w hk3_e_4 (by decide) (by decide), hP⟩ hS d_S_isBlind_38
    · replace hq := (if_pos c_6).symm.trans hq
      refine lv_iconst (v := zi 1) hx hb d_S_isBlind_33 rfl ?_
      refine lv_goto (tgt := 38) hx hb d_S_isBlind_34 (by decide) ?_
      exact zw_z hx hb hr hlocks (zB.w (zb_c 1) (by decide) (by decide)) hq ⟨k0_e_4, k1_e_4, k2_e_4, k3_e_4, zB.w hk0_e_4 (by decide) (by decide), zB.w hk1_e_4 (by decide) (by decide), zB.w hk2_e_4 (by decide) (by decide), zB.w hk3_e_4 (by decide) (by decide), hP⟩ hS d_S_isBlind_38
def f_S_blindStations_l (S : Nat → Int → Int) (v : Int) (z : Int → Int) : Nat → Int → Int → Int
  | 0, _, _ => 0
  | k + 1, w, i => if i < (S 11 0) then (if (f_S_isBlind S i v) = 0 then (f_S_blindStations_l S v z k w (i + 1)) else (f_S_blindStations_l S v z k (w + 1) (i + 1))) else (z w)
theorem f_S_blindStations_l_s (S : Nat → Int → Int) (v : Int) (z : Int → Int) (k : Nat) (w i : Int) : f_S_blindStations_l S v z (k + 1) w i = (if i < (S 11 0) then (if (f_S_isBlind S i v) = 0 then (f_S_blindStations_l S v z k w (i + 1)) else (f_S_blindStations_l S v z k (w + 1) (i + 1))) else (z w)) := rfl
def f_S_blindStations (S : Nat → Int → Int) (v : Int) : Int := f_S_blindStations_l S v (fun w => w) 61 0 0
set_option maxHeartbeats 4000000 in
set_option maxRecDepth 100000 in
theorem k_S_blindStations (l : Launch) (dC : Nat → ClassId) (dI : Nat → Nat → Nat) (ad : Nat → Nat) (cI : ClassId) (S : Nat → Int → Int) (k0 k1 k2 k3 : Int) (hI : iS S) (hj : zJ 13 ad) (hb_k0 : zB (-30000) 30000 k0) (hb_k1 : zB (-30000) 30000 k1) (hb_k2 : zB (-30000) 30000 k2) (hb_k3 : zB (-30000) 30000 k3) (v : Int) (hb_v : zB 0 1 v) : Met l y_S_blindStations (Cond.code y_S_blindStations c_S_blindStations 4 (some .int) :: zT) { frames := 6, cells := 0, slots := 0, locals := 144 } (va_Pc ([.ref (ad 0), .int (zi v)] : List Value) (zWS dC dI ad cI S k0 k1 k2 k3)) (zQ (some (.int (zi (f_S_blindStations S v)))) (fun H => ∃ k0 k1 k2 k3 : Int, zB (-30000) 30000 k0 ∧ zB (-30000) 30000 k1 ∧ zB (-30000) 30000 k2 ∧ zB (-30000) 30000 k3 ∧ va_P (dC, dI) classes (wS ad cI S k0 k1 k2 k3) H) (zAS ad)) 0 0 (zAS ad) := by
  refine zh (cc := c_S_blindStations) (C := R_S) (by decide) rfl rfl (Nat.le_of_ble_eq_true rfl) ?_
  intro p e s m below meth c ls hx hb hr hlocks hml hown hname hts hl hB
  have hw : ∀ w9 ∈ zT, w9.before ([.ref (ad 0), .int (zi v)] : List Value).toArray s = true := fun w9 h => hts w9 (List.mem_cons_of_mem _ h)
  obtain ⟨hP, hK, hN⟩ := hB
  obtain ⟨hn0, hn1⟩ := id (iS_s0 hI)
  have hD := zDS hj cI
  have hS : va_S (zAS ad) s.heap s.heap [] := va_S.rf
  obtain ⟨hz0, hz1⟩ := id (iS_s6 hI)
  obtain ⟨hl_v, hh_v⟩ := id hb_v
  generalize hq : f_S_blindStations S v = r
  unfold f_S_blindStations at hq
  replace hl : lv_has ls 4 [(0, .ref (ad 0)), (1, .int (zi v))] := hl
  refine lv_iconst (v := zi 0) hx hb d_S_blindStations_0 rfl ?_
  refine lv_istore_n (lv' := [(2, .int (zi 0)), (0, .ref (ad 0)), (1, .int (zi v))]) hx hb d_S_blindStations_1 rfl hl (by decide) rfl (fun ls hl => ?_)
  refine lv_iconst (v := zi 0) hx hb d_S_blindStations_2 rfl ?_
  refine lv_istore_n (lv' := [(3, .int (zi 0)), (2, .int (zi 0)), (0, .ref (ad 0)), (1, .int (zi v))]) hx hb d_S_blindStations_3 rfl hl (by decide) rfl (fun ls hl => ?_)
  have L_l : ∀ (z : Int → Int), (∀ (w : Int), zB 0 60 w → ∀ (ls : Array Slot) (H : Heap) (locs : List Loc) (k0 k1 k2 k3 : Int), zB (-30000) 30000 k0 → zB (-30000) 30000 k1 → zB (-30000) 30000 k2 → zB (-30000) 30000 k3 → va_P (dC, dI) classes (wS ad cI S k0 k1 k2 k3) H → va_S (zAS ad) s.heap H locs → z w = r → lv_has ls 4 [(0, .ref (ad 0)), (1, .int (zi v)), (2, .int (zi w))] → W p l e { frames := 6, cells := 0, slots := 0, locals := 144 } s m ([.ref (ad 0), .int (zi v)] : List Value).toArray below meth c H locs 0 0 (MQ below (zQ (some (.int (zi r))) (fun H => ∃ k0 k1 k2 k3 : Int, zB (-30000) 30000 k0 ∧ zB (-30000) 30000 k1 ∧ zB (-30000) 30000 k2 ∧ zB (-30000) 30000 k3 ∧ va_P (dC, dI) classes (wS ad cI S k0 k1 k2 k3) H) (zAS ad)) ([.ref (ad 0), .int (zi v)] : List Value).toArray s 0 0 (zAS ad)) (F0 m 30 ls [])) → ∀ (k : Nat) (w i : Int) (ls : Array Slot) (H : Heap) (locs : List Loc) (k0 k1 k2 k3 : Int), zB (-30000) 30000 k0 → zB (-30000) 30000 k1 → zB (-30000) 30000 k2 → zB (-30000) 30000 k3 → va_P (dC, dI) classes (wS ad cI S k0 k1 k2 k3) H → va_S (zAS ad) s.heap H locs → zB 0 60 w → zB 0 60 i → w ≤ i → 60 - i < (k : Int) → f_S_blindStations_l S v z k w i = r → lv_has ls 4 [(0, .ref (ad 0)), (1, .int (zi v)), (2, .int (zi w)), (3, .int (zi i))] → W p l e { frames := 6, cells := 0, slots := 0, locals := 144 } s m ([.ref (ad 0), .int (zi v)] : List Value).toArray below meth c H locs 0 0 (MQ below (zQ (some (.int (zi r))) (fun H => ∃ k0 k1 k2 k3 : Int, zB (-30000) 30000 k0 ∧ zB (-30000) 30000 k1 ∧ zB (-30000) 30000 k2 ∧ zB (-30000) 30000 k3 ∧ va_P (dC, dI) classes (wS ad cI S k0 k1 k2 k3) H) (zAS ad)) ([.ref (ad 0), .int (zi v)] : List Value).toArray s 0 0 (zAS ad)) (F0 m 4 ls []) := by
    intro z hz k
    induction k with
    | zero =>
      intro w i ls H locs k0 k1 k2 k3 hk0 hk1 hk2 hk3 hP hS hb_w hb_i hi_0 hk hq hl
      exact absurd hk (by have := hb_w.1; have := hb_w.2; have := hb_i.1; have := hb_i.2; omega)
    | succ k ih =>
      intro w i ls H locs k0 k1 k2 k3 hk0 hk1 hk2 hk3 hP hS hb_w hb_i hi_0 hk hq hl
      obtain ⟨hl_w, hh_w⟩ := id hb_w
      obtain ⟨hl_i, hh_i⟩ := id hb_i
      replace hq := (f_S_blindStations_l_s S v z k w i).symm.trans hq
      refine lv_iload_n hx hb d_S_blindStations_4 rfl (lv_at hl 3 rfl) ?_
      refine lv_aload_n hx hb d_S_blindStations_5 rfl (lv_at hl 0 rfl) ?_
      refine va_get (D := (dC, dI)) (ci := 1) (v := .int (zi (S 11 0))) (C := R_S) (T := T_S) (N := 13) hx hb hw i_S hown hK hP 0 rfl rfl 7 (by decide) (hw _ m_38) (fun _ h9 => h9) rfl d_S_blindStations_6 ?_
      refine zr_icmp_ge (tgt := 30) hx hb (zB.I hb_i (by decide) (by decide)) (zB.I (iS_s0 hI) (by decide) (by decide)) d_S_blindStations_9 (by decide) (fun c_1 => ?_) (fun c_1 => ?_)
      · replace hq := (if_neg c_1).symm.trans hq
        exact hz w (zB.w hb_w (by decide) (by decide)) ls _ _ k0 k1 k2 k3 (zB.w hk0 (by decide) (by decide)) (zB.w hk1 (by decide) (by decide)) (zB.w hk2 (by decide) (by decide)) (zB.w hk3 (by decide) (by decide)) hP hS hq (lv_sub hl [0, 1, 2] rfl)
      · replace hq := (if_pos c_1).symm.trans hq
        refine lv_aload_n hx hb d_S_blindStations_12 rfl (lv_at hl 0 rfl) ?_
        refine lv_iload_n hx hb d_S_blindStations_13 rfl (lv_at hl 3 rfl) ?_
        refine lv_iload_n hx hb d_S_blindStations_14 rfl (lv_at hl 1 rfl) ?_
        refine zc_w (va_runV (As := [.int (zi i), .int (zi v)]) (rest := []) ⟨hx, hb, hml, hown, hts⟩ (k_S_isBlind l dC dI ad cI S k0 k1 k2 k3 hI hj (zB.w hk0 (by decide) (by decide)) (zB.w hk1 (by decide) (by decide)) (zB.w hk2 (by decide) (by decide)) (zB.w hk3 (by decide) (by decide)) i v ⟨by omega, by omega⟩ (zB.w hb_v (by decide) (by decide)) (by omega)) (zcV 2 hts m_180 m_1 m_178 m_179 m_387 rfl rfl q_S_isBlind ⟨Nat.le_of_ble_eq_true rfl, Nat.le_of_ble_eq_true rfl⟩) (zpS0 hP hK hN [.int (zi i), .int (zi v)]) rfl rfl hl.1 rfl (lv_room (Nat.le_of_ble_eq_true rfl)) d_S_blindStations_15 ⟨Nat.zero_le _, Nat.zero_le _⟩) hS (fun q _ h => h) (fun q h => h) (fun H locs hP hz1 hk1 hS => ?_)
        clear hz1 hk1
        obtain ⟨k0_e_2, k1_e_2, k2_e_2, k3_e_2, hk0_e_2, hk1_e_2, hk2_e_2, hk3_e_2, hP⟩ := hP
        refine zr_if_eq (tgt := 24) hx hb (zB.I (bb_S_isBlind S i v) (by decide) (by decide)) d_S_blindStations_18 (by decide) (fun c_3 => ?_) (fun c_3 => ?_)
        · replace hq := (if_pos c_3).symm.trans hq
          have r_4 : zB 0 0 (f_S_isBlind S i v) := ⟨(Int.le_of_eq c_3.symm), (Int.le_of_eq c_3)⟩
          have b_5 : zB 1 61 (i + 1) := zB.w (zb_add hb_i (zb_c 1)) (by decide) (by decide)
          refine lv_iinc (v := zi (i + 1)) (lv' := [(3, .int (zi (i + 1))), (0, .ref (ad 0)), (1, .int (zi v)), (2, .int (zi w))]) hx hb d_S_blindStations_24 hl (k := 3) rfl (zi_add _ _) (by decide) rfl (fun ls hl => ?_)
          refine lv_goto (tgt := 4) hx hb d_S_blindStations_27 (by decide) ?_
          exact ih w (i + 1) ls _ _ k0_e_2 k1_e_2 k2_e_2 k3_e_2 (zB.w hk0_e_2 (by decide) (by decide)) (zB.w hk1_e_2 (by decide) (by decide)) (zB.w hk2_e_2 (by decide) (by decide)) (zB.w hk3_e_2 (by decide) (by decide)) hP hS (zB.w hb_w (by decide) (by decide)) ⟨by have h9 := b_5.1; have h8 := b_5.2; omega, by have h9 := b_5.1; have h8 := b_5.2; omega⟩ (by omega) (by omega) hq (lv_sub hl [1, 2, 3, 0] rfl)
        · replace hq := (if_neg c_3).symm.trans hq
          have r_6 : zB 1 1 (f_S_isBlind S i v) := ⟨(by have := (bb_S_isBlind S i v).1; omega), (bb_S_isBlind S i v).2⟩
          have b_7 : zB 1 61 (w + 1) := zB.w (zb_add hb_w (zb_c 1)) (by decide) (by decide)
          refine lv_iinc (v := zi (w + 1)) (lv' := [(2, .int (zi (w + 1))), (0, .ref (ad 0)), (1, .int (zi v)), (3, .int (zi i))]) hx hb d_S_blindStations_21 hl (k := 2) rfl (zi_add _ _) (by decide) rfl (fun ls hl => ?_)
          have b_8 : zB 1 61 (i + 1) := zB.w (zb_add hb_i (zb_c 1)) (by decide) (by decide)
          refine lv_iinc (v := zi (i + 1)) (lv' := [(3, .int (zi (i + 1))), (2, .int (zi (w + 1))), (0, .ref (ad 0)), (1, .int (zi v))]) hx hb d_S_blindStations_24 hl (k := 3) rfl (zi_add _ _) (by decide) rfl (fun ls hl => ?_)
          refine lv_goto (tgt := 4) hx hb d_S_blindStations_27 (by decide) ?_
          exact ih (w + 1) (i + 1) ls _ _ k0_e_2 k1_e_2 k2_e_2 k3_e_2 (zB.w hk0_e_2 (by decide) (by decide)) (zB.w hk1_e_2 (by decide) (by decide)) (zB.w hk2_e_2 (by decide) (by decide)) (zB.w hk3_e_2 (by decide) (by decide)) hP hS ⟨by have h9 := b_7.1; have h8 := b_7.2; omega, by have h9 := b_7.1; have h8 := b_7.2; omega⟩ ⟨by have h9 := b_8.1; have h8 := b_8.2; omega, by have h9 := b_8.1; have h8 := b_8.2; omega⟩ (by omega) (by omega) hq (lv_sub hl [2, 3, 1, 0] rfl)
  refine L_l _ (fun w hb_w ls H locs k0 k1 k2 k3 hk0 hk1 hk2 hk3 hP hS hq hl => ?_) 61 0 0 ls _ _ k0 k1 k2 k3 (zB.w hb_k0 (by decide) (by decide)) (zB.w hb_k1 (by decide) (by decide)) (zB.w hb_k2 (by decide) (by decide)) (zB.w hb_k3 (by decide) (by decide)) hP hS (zB.w (zb_c 0) (by decide) (by decide)) (zB.w (zb_c 0) (by decide) (by decide)) (by omega) (by omega) hq (lv_sub hl [2, 3, 1, 0] rfl)
  obtain ⟨hl_w, hh_w⟩ := id hb_w
  refine lv_iload_n hx hb d_S_blindStations_30 rfl (lv_at hl 2 rfl) ?_
  exact zw_i hx hb hr hlocks hq ⟨k0, k1, k2, k3, zB.w hk0 (by decide) (by decide), zB.w hk1 (by decide) (by decide), zB.w hk2 (by decide) (by decide), zB.w hk3 (by decide) (by decide), hP⟩ hS d_S_blindStations_31
def f_S_freeViews_n (S : Nat → Int → Int) (w : Int) (i : Int) (z : Int → Int) : Nat → Int → Int → Int
  | 0, _, _ => 0
  | k + 1, u, j => if j < (S 11 0) then (if (f_S_interruption S i j) = 0 then (f_S_freeViews_n S w i z k (u + 1) (j + 1)) else (f_S_freeViews_n S w i z k u (j + 1))) else (z u)
theorem f_S_freeViews_n_s (S : Nat → Int → Int) (w : Int) (i : Int) (z : Int → Int) (k : Nat) (u j : Int) : f_S_freeViews_n S w i z (k + 1) u j = (if j < (S 11 0) then (if (f_S_interruption S i j) = 0 then (f_S_freeViews_n S w i z k (u + 1) (j + 1)) else (f_S_freeViews_n S w i z k u (j + 1))) else (z u)) := rfl
def f_S_freeViews_o (S : Nat → Int → Int) (z : Int → Int) : Nat → Int → Int → Int
  | 0, _, _ => 0
  | k + 1, w, i => if i < (S 11 0) then (f_S_freeViews_n S w i (fun u => f_S_freeViews_o S z k u (i + 1)) 61 w (i + 1)) else (z w)
theorem f_S_freeViews_o_s (S : Nat → Int → Int) (z : Int → Int) (k : Nat) (w i : Int) : f_S_freeViews_o S z (k + 1) w i = (if i < (S 11 0) then (f_S_freeViews_n S w i (fun u => f_S_freeViews_o S z k u (i + 1)) 61 w (i + 1)) else (z w)) := rfl
def f_S_freeViews (S : Nat → Int → Int)  : Int := f_S_freeViews_o S (fun w => w) 61 0 0
set_option maxHeartbeats 4000000 in
set_option maxRecDepth 100000 in
theorem k_S_freeViews (l : Launch) (dC : Nat → ClassId) (dI : Nat → Nat → Nat) (ad : Nat → Nat) (cI : ClassId) (S : Nat → Int → Int) (k0 k1 k2 k3 : Int) (hI : iS S) (hj : zJ 13 ad) (hb_k0 : zB (-30000) 30000 k0) (hb_k1 : zB (-30000) 30000 k1) (hb_k2 : zB (-30000) 30000 k2) (hb_k3 : zB (-30000) 30000 k3) : Met l y_S_freeViews (Cond.code y_S_freeViews c_S_freeViews 4 (some .int) :: zT) { frames := 4, cells := 0, slots := 0, locals := 96 } (va_Pc ([.ref (ad 0)] : List Value) (zWS dC dI ad cI S k0 k1 k2 k3)) (zQ (some (.int (zi (f_S_freeViews S)))) (fun H => ∃ k0 k1 k2 k3 : Int, zB (-30000) 30000 k0 ∧ zB (-30000) 30000 k1 ∧ zB (-30000) 30000 k2 ∧ zB (-30000) 30000 k3 ∧ va_P (dC, dI) classes (wS ad cI S k0 k1 k2 k3) H) (zAS ad)) 0 0 (zAS ad) := by
  refine zh (cc := c_S_freeViews) (C := R_S) (by decide) rfl rfl (Nat.le_of_ble_eq_true rfl) ?_
  intro p e s m below meth c ls hx hb hr hlocks hml hown hname hts hl hB
  have hw : ∀ w9 ∈ zT, w9.before ([.ref (ad 0)] : List Value).toArray s = true := fun w9 h => hts w9 (List.mem_cons_of_mem _ h)
  obtain ⟨hP, hK, hN⟩ := hB
  obtain ⟨hn0, hn1⟩ := id (iS_s0 hI)
  have hD := zDS hj cI
  have hS : va_S (zAS ad) s.heap s.heap [] := va_S.rf
  obtain ⟨hz0, hz1⟩ := id (iS_s6 hI)
  generalize hq : f_S_freeViews S = r
  unfold f_S_freeViews at hq
  replace hl : lv_has ls 4 [(0, .ref (ad 0))] := hl
  refine lv_iconst (v := zi 0) hx hb d_S_freeViews_0 rfl ?_
  refine lv_istore_n (lv' := [(1, .int (zi 0)), (0, .ref (ad 0))]) hx hb d_S_freeViews_1 rfl hl (by decide) rfl (fun ls hl => ?_)
  refine lv_iconst (v := zi 0) hx hb d_S_freeViews_2 rfl ?_
  refine lv_istore_n (lv' := [(2, .int (zi 0)), (1, .int (zi 0)), (0, .ref (ad 0))]) hx hb d_S_freeViews_3 rfl hl (by decide) rfl (fun ls hl => ?_)
  have L_o : ∀ (z : Int → Int), (∀ (w : Int), zB 0 3600 w → ∀ (ls : Array Slot) (H : Heap) (locs : List Loc) (k0 k1 k2 k3 : Int), zB (-30000) 30000 k0 → zB (-30000) 30000 k1 → zB (-30000) 30000 k2 → zB (-30000) 30000 k3 → va_P (dC, dI) classes (wS ad cI S k0 k1 k2 k3) H → va_S (zAS ad) s.heap H locs → z w = r → lv_has ls 4 [(0, .ref (ad 0)), (1, .int (zi w))] → W p l e { frames := 4, cells := 0, slots := 0, locals := 96 } s m ([.ref (ad 0)] : List Value).toArray below meth c H locs 0 0 (MQ below (zQ (some (.int (zi r))) (fun H => ∃ k0 k1 k2 k3 : Int, zB (-30000) 30000 k0 ∧ zB (-30000) 30000 k1 ∧ zB (-30000) 30000 k2 ∧ zB (-30000) 30000 k3 ∧ va_P (dC, dI) classes (wS ad cI S k0 k1 k2 k3) H) (zAS ad)) ([.ref (ad 0)] : List Value).toArray s 0 0 (zAS ad)) (F0 m 48 ls [])) → ∀ (k : Nat) (w i : Int) (ls : Array Slot) (H : Heap) (locs : List Loc) (k0 k1 k2 k3 : Int), zB (-30000) 30000 k0 → zB (-30000) 30000 k1 → zB (-30000) 30000 k2 → zB (-30000) 30000 k3 → va_P (dC, dI) classes (wS ad cI S k0 k1 k2 k3) H → va_S (zAS ad) s.heap H locs → zB 0 3600 w → zB 0 60 i → w ≤ 60 * i → 60 - i < (k : Int) → f_S_freeViews_o S z k w i = r → lv_has ls 4 [(0, .ref (ad 0)), (1, .int (zi w)), (2, .int (zi i))] → W p l e { frames := 4, cells := 0, slots := 0, locals := 96 } s m ([.ref (ad 0)] : List Value).toArray below meth c H locs 0 0 (MQ below (zQ (some (.int (zi r))) (fun H => ∃ k0 k1 k2 k3 : Int, zB (-30000) 30000 k0 ∧ zB (-30000) 30000 k1 ∧ zB (-30000) 30000 k2 ∧ zB (-30000) 30000 k3 ∧ va_P (dC, dI) classes (wS ad cI S k0 k1 k2 k3) H) (zAS ad)) ([.ref (ad 0)] : List Value).toArray s 0 0 (zAS ad)) (F0 m 4 ls []) := by
    intro z hz k
    induction k with
    | zero =>
      intro w i ls H locs k0 k1 k2 k3 hk0 hk1 hk2 hk3 hP hS hb_w hb_i hi_0 hk hq hl
      exact absurd hk (by have := hb_w.1; have := hb_w.2; have := hb_i.1; have := hb_i.2; omega)
    | succ k ih =>
      intro w i ls H locs k0 k1 k2 k3 hk0 hk1 hk2 hk3 hP hS hb_w hb_i hi_0 hk hq hl
      obtain ⟨hl_w, hh_w⟩ := id hb_w
      obtain ⟨hl_i, hh_i⟩ := id hb_i
      replace hq := (f_S_freeViews_o_s S z k w i).symm.trans hq
      refine lv_iload_n hx hb d_S_freeViews_4 rfl (lv_at hl 2 rfl) ?_
      refine lv_aload_n hx hb d_S_freeViews_5 rfl (lv_at hl 0 rfl) ?_
      refine va_get (D := (dC, dI)) (ci := 1) (v := .int (zi (S 11 0))) (C := R_S) (T := T_S) (N := 13) hx hb hw i_S hown hK hP 0 rfl rfl 7 (by decide) (hw _ m_38) (fun _ h9 => h9) rfl d_S_freeViews_6 ?_
      refine zr_icmp_ge (tgt := 48) hx hb (zB.I hb_i (by decide) (by decide)) (zB.I (iS_s0 hI) (by decide) (by decide)) d_S_freeViews_9 (by decide) (fun c_1 => ?_) (fun c_1 => ?_)
      · replace hq := (if_neg c_1).symm.trans hq
        exact hz w (zB.w hb_w (by decide) (by decide)) ls _ _ k0 k1 k2 k3 (zB.w hk0 (by decide) (by decide)) (zB.w hk1 (by decide) (by decide)) (zB.w hk2 (by decide) (by decide)) (zB.w hk3 (by decide) (by decide)) hP hS hq (lv_sub hl [0, 1] rfl)
      · replace hq := (if_pos c_1).symm.trans hq
        refine lv_iload_n hx hb d_S_freeViews_12 rfl (lv_at hl 2 rfl) ?_
        refine lv_iconst (v := zi 1) hx hb d_S_freeViews_13 rfl ?_
        have b_2 : zB 1 61 (i + 1) := zB.w (zb_add hb_i (zb_c 1)) (by decide) (by decide)
        refine zr_iadd hx hb d_S_freeViews_14 ?_
        refine lv_istore_n (lv' := [(3, .int (zi (i + 1))), (0, .ref (ad 0)), (1, .int (zi w)), (2, .int (zi i))]) hx hb d_S_freeViews_15 rfl hl (by decide) rfl (fun ls hl => ?_)
        have L_n : ∀ (z : Int → Int), (∀ (u : Int), zB 0 3600 u → u ≤ 60 * i + 60 → ∀ (ls : Array Slot) (H : Heap) (locs : List Loc) (k0 k1 k2 k3 : Int), zB (-30000) 30000 k0 → zB (-30000) 30000 k1 → zB (-30000) 30000 k2 → zB (-30000) 30000 k3 → va_P (dC, dI) classes (wS ad cI S k0 k1 k2 k3) H → va_S (zAS ad) s.heap H locs → z u = r → lv_has ls 4 [(0, .ref (ad 0)), (1, .int (zi u)), (2, .int (zi i))] → W p l e { frames := 4, cells := 0, slots := 0, locals := 96 } s m ([.ref (ad 0)] : List Value).toArray below meth c H locs 0 0 (MQ below (zQ (some (.int (zi r))) (fun H => ∃ k0 k1 k2 k3 : Int, zB (-30000) 30000 k0 ∧ zB (-30000) 30000 k1 ∧ zB (-30000) 30000 k2 ∧ zB (-30000) 30000 k3 ∧ va_P (dC, dI) classes (wS ad cI S k0 k1 k2 k3) H) (zAS ad)) ([.ref (ad 0)] : List Value).toArray s 0 0 (zAS ad)) (F0 m 42 ls [])) → ∀ (k : Nat) (u j : Int) (ls : Array Slot) (H : Heap) (locs : List Loc) (k0 k1 k2 k3 : Int), zB (-30000) 30000 k0 → zB (-30000) 30000 k1 → zB (-30000) 30000 k2 → zB (-30000) 30000 k3 → va_P (dC, dI) classes (wS ad cI S k0 k1 k2 k3) H → va_S (zAS ad) s.heap H locs → zB 0 3600 u → zB 1 60 j → u ≤ 60 * i + j - 1 → 60 - j < (k : Int) → f_S_freeViews_n S w i z k u j = r → lv_has ls 4 [(0, .ref (ad 0)), (1, .int (zi u)), (2, .int (zi i)), (3, .int (zi j))] → W p l e { frames := 4, cells := 0, slots := 0, locals := 96 } s m ([.ref (ad 0)] : List Value).toArray below meth c H locs 0 0 (MQ below (zQ (some (.int (zi r))) (fun H => ∃ k0 k1 k2 k3 : Int, zB (-30000) 30000 k0 ∧ zB (-30000) 30000 k1 ∧ zB (-30000) 30000 k2 ∧ zB (-30000) 30000 k3 ∧ va_P (dC, dI) classes (wS ad cI S k0 k1 k2 k3) H) (zAS ad)) ([.ref (ad 0)] : List Value).toArray s 0 0 (zAS ad)) (F0 m 16 ls []) := by
          intro z hz k
          induction k with
          | zero =>
            intro u j ls H locs k0 k1 k2 k3 hk0 hk1 hk2 hk3 hP hS hb_u hb_j hi_0 hk hq hl
            exact absurd hk (by have := hb_u.1; have := hb_u.2; have := hb_j.1; have := hb_j.2; omega)
          | succ k ih =>
            intro u j ls H locs k0 k1 k2 k3 hk0 hk1 hk2 hk3 hP hS hb_u hb_j hi_0 hk hq hl
            obtain ⟨hl_u, hh_u⟩ := id hb_u
            obtain ⟨hl_j, hh_j⟩ := id hb_j
            replace hq := (f_S_freeViews_n_s S w i z k u j).symm.trans hq
            refine lv_iload_n hx hb d_S_freeViews_16 rfl (lv_at hl 3 rfl) ?_
            refine lv_aload_n hx hb d_S_freeViews_17 rfl (lv_at hl 0 rfl) ?_
            refine va_get (D := (dC, dI)) (ci := 1) (v := .int (zi (S 11 0))) (C := R_S) (T := T_S) (N := 13) hx hb hw i_S hown hK hP 0 rfl rfl 7 (by decide) (hw _ m_38) (fun _ h9 => h9) rfl d_S_freeViews_18 ?_
            refine zr_icmp_ge (tgt := 42) hx hb (zB.I hb_j (by decide) (by decide)) (zB.I (iS_s0 hI) (by decide) (by decide)) d_S_freeViews_21 (by decide) (fun c_3 => ?_) (fun c_3 => ?_)
            · replace hq := (if_neg c_3).symm.trans hq
              exact hz u (zB.w hb_u (by decide) (by decide)) (by omega) ls _ _ k0 k1 k2 k3 (zB.w hk0 (by decide) (by decide)) (zB.w hk1 (by decide) (by decide)) (zB.w hk2 (by decide) (by decide)) (zB.w hk3 (by decide) (by decide)) hP hS hq (lv_sub hl [0, 1, 2] rfl)
            · replace hq := (if_pos c_3).symm.trans hq
              refine lv_aload_n hx hb d_S_freeViews_24 rfl (lv_at hl 0 rfl) ?_
              refine lv_iload_n hx hb d_S_freeViews_25 rfl (lv_at hl 2 rfl) ?_
              refine lv_iload_n hx hb d_S_freeViews_26 rfl (lv_at hl 3 rfl) ?_
              refine zc_w (va_runV (As := [.int (zi i), .int (zi j)]) (rest := []) ⟨hx, hb, hml, hown, hts⟩ (k_S_interruption l dC dI ad cI S k0 k1 k2 k3 hI hj (zB.w hk0 (by decide) (by decide)) (zB.w hk1 (by decide) (by decide)) (zB.w hk2 (by decide) (by decide)) (zB.w hk3 (by decide) (by decide)) i j ⟨by omega, by omega⟩ ⟨by omega, by omega⟩ ) (zcV 2 hts m_113 m_1 m_111 m_112 m_376 rfl rfl q_S_interruption ⟨Nat.le_of_ble_eq_true rfl, Nat.le_of_ble_eq_true rfl⟩) (zpS0 hP hK hN [.int (zi i), .int (zi j)]) rfl rfl hl.1 rfl (lv_room (Nat.le_of_ble_eq_true rfl)) d_S_freeViews_27 ⟨Nat.zero_le _, Nat.zero_le _⟩) hS (fun q _ h => h) (fun q h => h) (fun H locs hP hz1 hk1 hS => ?_)
              clear hz1 hk1
              obtain ⟨k0_e_4, k1_e_4, k2_e_4, k3_e_4, hk0_e_4, hk1_e_4, hk2_e_4, hk3_e_4, hP⟩ := hP
              have b_5 : zB 0 255 (f_S_interruption S i j) := br_S_interruption S i j hI ⟨by omega, by omega⟩ ⟨by omega, by omega⟩ 
              refine zr_if_ne (tgt := 36) hx hb (zB.I b_5 (by decide) (by decide)) d_S_freeViews_30 (by decide) (fun c_6 => ?_) (fun c_6 => ?_)
              · replace hq := (if_neg c_6).symm.trans hq
                have r_7 : zB 1 255 (f_S_interruption S i j) := ⟨(by have := b_5.1; omega), b_5.2⟩
                have b_8 : zB 2 61 (j + 1) := zB.w (zb_add hb_j (zb_c 1)) (by decide) (by decide)
                refine lv_iinc (v := zi (j + 1)) (lv' := [(3, .int (zi (j + 1))), (0, .ref (ad 0)), (1, .int (zi u)), (2, .int (zi i))]) hx hb d_S_freeViews_36 hl (k := 3) rfl (zi_add _ _) (by decide) rfl (fun ls hl => ?_)
                refine lv_goto (tgt := 16) hx hb d_S_freeViews_39 (by decide) ?_
                exact ih u (j + 1) ls _ _ k0_e_4 k1_e_4 k2_e_4 k3_e_4 (zB.w hk0_e_4 (by decide) (by decide)) (zB.w hk1_e_4 (by decide) (by decide)) (zB.w hk2_e_4 (by decide) (by decide)) (zB.w hk3_e_4 (by decide) (by decide)) hP hS (zB.w hb_u (by decide) (by decide)) ⟨by have h9 := b_8.1; have h8 := b_8.2; omega, by have h9 := b_8.1; have h8 := b_8.2; omega⟩ (by omega) (by omega) hq (lv_sub hl [1, 2, 3, 0] rfl)
              · replace hq := (if_pos c_6).symm.trans hq
                have r_9 : zB 0 0 (f_S_interruption S i j) := ⟨(Int.le_of_eq c_6.symm), (Int.le_of_eq c_6)⟩
                have b_10 : zB 1 3601 (u + 1) := zB.w (zb_add hb_u (zb_c 1)) (by decide) (by decide)
                refine lv_iinc (v := zi (u + 1)) (lv' := [(1, .int (zi (u + 1))), (0, .ref (ad 0)), (2, .int (zi i)), (3, .int (zi j))]) hx hb d_S_freeViews_33 hl (k := 1) rfl (zi_add _ _) (by decide) rfl (fun ls hl => ?_)
                have b_11 : zB 2 61 (j + 1) := zB.w (zb_add hb_j (zb_c 1)) (by decide) (by decide)
                refine lv_iinc (v := zi (j + 1)) (lv' := [(3, .int (zi (j + 1))), (1, .int (zi (u + 1))), (0, .ref (ad 0)), (2, .int (zi i))]) hx hb d_S_freeViews_36 hl (k := 3) rfl (zi_add _ _) (by decide) rfl (fun ls hl => ?_)
                refine lv_goto (tgt := 16) hx hb d_S_freeViews_39 (by decide) ?_
                exact ih (u + 1) (j + 1) ls _ _ k0_e_4 k1_e_4 k2_e_4 k3_e_4 (zB.w hk0_e_4 (by decide) (by decide)) (zB.w hk1_e_4 (by decide) (by decide)) (zB.w hk2_e_4 (by decide) (by decide)) (zB.w hk3_e_4 (by decide) (by decide)) hP hS ⟨by have h9 := b_10.1; have h8 := b_10.2; omega, by have h9 := b_10.1; have h8 := b_10.2; omega⟩ ⟨by have h9 := b_11.1; have h8 := b_11.2; omega, by have h9 := b_11.1; have h8 := b_11.2; omega⟩ (by omega) (by omega) hq (lv_sub hl [2, 1, 3, 0] rfl)
        refine L_n _ (fun u hb_u ho_n0 ls H locs k0 k1 k2 k3 hk0 hk1 hk2 hk3 hP hS hq hl => ?_) 61 w (i + 1) ls _ _ k0 k1 k2 k3 (zB.w hk0 (by decide) (by decide)) (zB.w hk1 (by decide) (by decide)) (zB.w hk2 (by decide) (by decide)) (zB.w hk3 (by decide) (by decide)) hP hS (zB.w hb_w (by decide) (by decide)) ⟨by omega, by omega⟩ (by omega) (by omega) hq (lv_sub hl [1, 2, 3, 0] rfl)
        obtain ⟨hl_u, hh_u⟩ := id hb_u
        refine lv_iinc (v := zi (i + 1)) (lv' := [(2, .int (zi (i + 1))), (0, .ref (ad 0)), (1, .int (zi u))]) hx hb d_S_freeViews_42 hl (k := 2) rfl (zi_add _ _) (by decide) rfl (fun ls hl => ?_)
        refine lv_goto (tgt := 4) hx hb d_S_freeViews_45 (by decide) ?_
        exact ih u (i + 1) ls _ _ k0 k1 k2 k3 (zB.w hk0 (by decide) (by decide)) (zB.w hk1 (by decide) (by decide)) (zB.w hk2 (by decide) (by decide)) (zB.w hk3 (by decide) (by decide)) hP hS (zB.w hb_u (by decide) (by decide)) ⟨by have h9 := b_2.1; have h8 := b_2.2; omega, by have h9 := b_2.1; have h8 := b_2.2; omega⟩ (by omega) (by omega) hq (lv_sub hl [1, 2, 0] rfl)
  refine L_o _ (fun w hb_w ls H locs k0 k1 k2 k3 hk0 hk1 hk2 hk3 hP hS hq hl => ?_) 61 0 0 ls _ _ k0 k1 k2 k3 (zB.w hb_k0 (by decide) (by decide)) (zB.w hb_k1 (by decide) (by decide)) (zB.w hb_k2 (by decide) (by decide)) (zB.w hb_k3 (by decide) (by decide)) hP hS (zB.w (zb_c 0) (by decide) (by decide)) (zB.w (zb_c 0) (by decide) (by decide)) (by omega) (by omega) hq (lv_sub hl [2, 1, 0] rfl)
  obtain ⟨hl_w, hh_w⟩ := id hb_w
  refine lv_iload_n hx hb d_S_freeViews_48 rfl (lv_at hl 1 rfl) ?_
  exact zw_i hx hb hr hlocks hq ⟨k0, k1, k2, k3, zB.w hk0 (by decide) (by decide), zB.w hk1 (by decide) (by decide), zB.w hk2 (by decide) (by decide), zB.w hk3 (by decide) (by decide), hP⟩ hS d_S_freeViews_49
