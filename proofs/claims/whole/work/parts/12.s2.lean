theorem fr_S_rootOf (v : Int) : ∀ (j k : Nat) (t : Int), 0 ≤ t → t * t ≤ v → v < (t + 2 ^ j) * (t + 2 ^ j) → j < k →
    0 ≤ f_S_rootOf_l v (fun t => t) k t ((j : Int) - 1) ∧ f_S_rootOf_l v (fun t => t) k t ((j : Int) - 1) * f_S_rootOf_l v (fun t => t) k t ((j : Int) - 1) ≤ v ∧ v < (f_S_rootOf_l v (fun t => t) k t ((j : Int) - 1) + 1) * (f_S_rootOf_l v (fun t => t) k t ((j : Int) - 1) + 1) := by
  intro j
  induction j with
  | zero =>
    intro k t h0 h1 h2 hk
    obtain ⟨k, rfl⟩ : ∃ q, k = q + 1 := ⟨k - 1, by omega⟩
    rw [f_S_rootOf_l_s, if_pos (by omega)]
    exact ⟨h0, h1, h2⟩
  | succ j ih =>
    intro k t h0 h1 h2 hk
    obtain ⟨k, rfl⟩ : ∃ q, k = q + 1 := ⟨k - 1, by omega⟩
    have e1 : ((j + 1 : Nat) : Int) - 1 = (j : Int) := by omega
    have e2 : ((j : Int)).toNat = j := by omega
    have e3 : (j : Int) + (-1) = (j : Int) - 1 := by omega
    have e4 : (2 : Int) ^ (j + 1) = 2 ^ j * 2 := Int.pow_succ 2 j
    have e5 : (0 : Int) < 2 ^ j := by rw [zp_cast]; have : 0 < 2 ^ j := Nat.pow_pos (by decide); omega
    rw [e1, f_S_rootOf_l_s, if_neg (by omega), e2, e3]
    by_cases c : v < (t + 2 ^ j) * (t + 2 ^ j)
    · rw [if_pos c]
      exact ih k t h0 h1 c (by omega)
    · rw [if_neg c]
      refine ih k (t + 2 ^ j) (by omega) (by omega) ?_ (by omega)
      have e6 : t + 2 ^ j + 2 ^ j = t + 2 ^ (j + 1) := by rw [e4]; omega
      rw [e6]
      exact h2
theorem fr_S_root (v : Int) (h : zB 0 1800000000 v) : 0 ≤ f_S_rootOf v ∧ f_S_rootOf v * f_S_rootOf v ≤ v ∧ v < (f_S_rootOf v + 1) * (f_S_rootOf v + 1) := by
  obtain ⟨h1, h2⟩ := h
  exact fr_S_rootOf v 16 17 0 (by decide) (by omega) (by have : ((0 : Int) + 2 ^ 16) * (0 + 2 ^ 16) = 4294967296 := by decide
                                                         omega) (by decide)
theorem zq_le {r v : Int} (h0 : 0 ≤ r) (h : r * r ≤ v) (hv : v ≤ 1800000000) : r ≤ 42426 := by
  rcases Int.lt_or_le 42426 r with q | q
  · have : (42427 : Int) * 42427 ≤ r * r := Int.mul_le_mul q q (by decide) h0
    omega
  · exact q
theorem br_S_rootOf (v : Int) (h : zB 0 1800000000 v) : zB 0 524288 (f_S_rootOf v) := by
  have h1 := fr_S_root v h
  have h2 := zq_le h1.1 h1.2.1 h.2
  exact ⟨h1.1, by omega⟩
def f_S_stepBetween (S : Nat → Int → Int) (a b : Int) : Int := zmax 1 (f_S_rootOf (f_S_squareBetween S a b))
set_option maxHeartbeats 4000000 in
set_option maxRecDepth 100000 in
theorem k_S_stepBetween (l : Launch) (dC : Nat → ClassId) (dI : Nat → Nat → Nat) (ad : Nat → Nat) (cI : ClassId) (S : Nat → Int → Int) (k0 k1 k2 k3 : Int) (hI : iS S) (a b : Int) (hb_a : zB 0 59 a) (hb_b : zB 0 59 b) : Met l y_S_stepBetween (Cond.code y_S_stepBetween c_S_stepBetween 3 (some .int) :: zT) { frames := 2, cells := 0, slots := 0, locals := 45 } (va_Pc ([.ref (ad 0), .int (zi a), .int (zi b)] : List Value) (zWS dC dI ad cI S k0 k1 k2 k3)) (zR (.int (zi (f_S_stepBetween S a b)))) 0 0 (fun _ => False) := by
  refine zh (cc := c_S_stepBetween) (C := R_S) (by decide) rfl rfl (Nat.le_of_ble_eq_true rfl) ?_
  intro p e s m below meth c ls hx hb hr hlocks hml hown hname hts hl hB
  have hw : ∀ w9 ∈ zT, w9.before ([.ref (ad 0), .int (zi a), .int (zi b)] : List Value).toArray s = true := fun w9 h => hts w9 (List.mem_cons_of_mem _ h)
  obtain ⟨hP, hK, hN⟩ := hB
  obtain ⟨hn0, hn1⟩ := id (iS_s0 hI)
  obtain ⟨hz0, hz1⟩ := id (iS_s6 hI)
  obtain ⟨hl_a, hh_a⟩ := id hb_a
  obtain ⟨hl_b, hh_b⟩ := id hb_b
  generalize hq : f_S_stepBetween S a b = r
  unfold f_S_stepBetween at hq
  replace hl : lv_has ls 3 [(0, .ref (ad 0)), (1, .int (zi a)), (2, .int (zi b))] := hl
  refine lv_iconst (v := zi 1) hx hb d_S_stepBetween_0 rfl ?_
  refine lv_aload_n hx hb d_S_stepBetween_1 rfl (lv_at hl 0 rfl) ?_
  refine lv_iload_n hx hb d_S_stepBetween_2 rfl (lv_at hl 1 rfl) ?_
  refine lv_iload_n hx hb d_S_stepBetween_3 rfl (lv_at hl 2 rfl) ?_
  refine zc_n (va_runV (As := [.int (zi a), .int (zi b)]) (rest := [.int (zi 1)]) ⟨hx, hb, hml, hown, hts⟩ (k_S_squareBetween l dC dI ad cI S k0 k1 k2 k3 hI a b (zB.w hb_a (by decide) (by decide)) (zB.w hb_b (by decide) (by decide)) ) (zcV 2 hts m_64 m_1 m_62 m_63 m_373 rfl rfl q_S_squareBetween ⟨Nat.le_of_ble_eq_true rfl, Nat.le_of_ble_eq_true rfl⟩) (zpS0 hP hK hN [.int (zi a), .int (zi b)]) rfl rfl hl.1 rfl (lv_room (Nat.le_of_ble_eq_true rfl)) d_S_stepBetween_4 ⟨Nat.zero_le _, Nat.zero_le _⟩) ?_
  have b_1 : zB 0 1800000000 (f_S_squareBetween S a b) := br_S_squareBetween S a b hI (zB.w hb_a (by decide) (by decide)) (zB.w hb_b (by decide) (by decide)) 
  refine zc_n (va_runS (As := [.long (zl (f_S_squareBetween S a b))]) (rest := [.int (zi 1)]) ⟨hx, hb, hml, hown, hts⟩ (k_S_rootOf l (f_S_squareBetween S a b) (zB.w b_1 (by decide) (by decide)) ) (zcS 1 hts m_70 m_1 m_68 m_69 rfl rfl q_S_rootOf ⟨Nat.le_of_ble_eq_true rfl, Nat.le_of_ble_eq_true rfl⟩) (zp0 [.long (zl (f_S_squareBetween S a b))]) rfl rfl hl.1 rfl (lv_room (Nat.le_of_ble_eq_true rfl)) d_S_stepBetween_7 ⟨Nat.zero_le _, Nat.zero_le _⟩) ?_
  have b_2 : zB 0 524288 (f_S_rootOf (f_S_squareBetween S a b)) := br_S_rootOf (f_S_squareBetween S a b) (zB.w b_1 (by decide) (by decide)) 
  refine zr_max hx hb (hml.trans hl.1.symm) hown (hw _ m_71) (hw _ m_72) (hw _ m_4) (hw _ m_73) (Nat.le_of_ble_eq_true rfl) (Nat.le_of_ble_eq_true rfl) (Nat.zero_le _) (Nat.zero_le _) (zB.I (zb_c 1) (by decide) (by decide)) (zB.I b_2 (by decide) (by decide)) d_S_stepBetween_10 ?_
  have b_3 : zB 1 524288 (zmax 1 (f_S_rootOf (f_S_squareBetween S a b))) := zB.w (zb_maxl (lo := 1) (hi := 524288) (zb_c 1) b_2 (by decide) (by decide) (by decide)) (by decide) (by decide)
  obtain ⟨hl_b_3, hh_b_3⟩ := id b_3
  exact ze_i hx hb hr hlocks hq d_S_stepBetween_13
def f_S_isGroundAbove (S : Nat → Int → Int) (a b d : Int) : Int := if ((((zabs ((S 3 b) - (S 3 a))) - (zabs ((S 3 d) - (S 3 a)))) * ((S 2 a) + (S 11 2))) + ((zabs ((S 3 d) - (S 3 a))) * ((S 2 b) + (S 11 3)))) < ((zabs ((S 3 b) - (S 3 a))) * (S 2 d)) then (1) else (0)
theorem bb_S_isGroundAbove (S : Nat → Int → Int) (a b d : Int) : zB 0 1 (f_S_isGroundAbove S a b d) := by
  unfold f_S_isGroundAbove
  repeat' split
  all_goals first | exact ⟨by decide, by decide⟩  | apply bb_S_isWithin
set_option maxHeartbeats 4000000 in
set_option maxRecDepth 100000 in
theorem k_S_isGroundAbove (l : Launch) (dC : Nat → ClassId) (dI : Nat → Nat → Nat) (ad : Nat → Nat) (cI : ClassId) (S : Nat → Int → Int) (k0 k1 k2 k3 : Int) (hI : iS S) (a b d : Int) (hb_a : zB 0 59 a) (hb_b : zB 0 59 b) (hb_d : zB 0 59 d) : Met l y_S_isGroundAbove (Cond.code y_S_isGroundAbove c_S_isGroundAbove 10 (some .boolean) :: zT) { frames := 1, cells := 0, slots := 0, locals := 13 } (va_Pc ([.ref (ad 0), .int (zi a), .int (zi b), .int (zi d)] : List Value) (zWS dC dI ad cI S k0 k1 k2 k3)) (zR (.int (zi (f_S_isGroundAbove S a b d)))) 0 0 (fun _ => False) := by
  refine zh (cc := c_S_isGroundAbove) (C := R_S) (by decide) rfl rfl (Nat.le_of_ble_eq_true rfl) ?_
  intro p e s m below meth c ls hx hb hr hlocks hml hown hname hts hl hB
  have hw : ∀ w9 ∈ zT, w9.before ([.ref (ad 0), .int (zi a), .int (zi b), .int (zi d)] : List Value).toArray s = true := fun w9 h => hts w9 (List.mem_cons_of_mem _ h)
  obtain ⟨hP, hK, hN⟩ := hB
  obtain ⟨hn0, hn1⟩ := id (iS_s0 hI)
  obtain ⟨hz0, hz1⟩ := id (iS_s6 hI)
  obtain ⟨hl_a, hh_a⟩ := id hb_a
  obtain ⟨hl_b, hh_b⟩ := id hb_b
  obtain ⟨hl_d, hh_d⟩ := id hb_d
  generalize hq : f_S_isGroundAbove S a b d = r
  unfold f_S_isGroundAbove at hq
  replace hl : lv_has ls 10 [(0, .ref (ad 0)), (1, .int (zi a)), (2, .int (zi b)), (3, .int (zi d))] := hl
  refine lv_aload_n hx hb d_S_isGroundAbove_0 rfl (lv_at hl 0 rfl) ?_
  refine va_get (D := (dC, dI)) (ci := 1) (v := .ref (ad 4)) (C := R_S) (T := T_S) (N := 13) hx hb hw i_S hown hK hP 0 rfl rfl 3 (by decide) (hw _ m_34) (fun _ h9 => h9) rfl d_S_isGroundAbove_1 ?_
  refine lv_iload_n hx hb d_S_isGroundAbove_4 rfl (lv_at hl 2 rfl) ?_
  refine zr_iald hx hb hK hP 4 0 (cA := cI) (n := 60) (g := S 3) rfl rfl (i := b) (by omega) (by omega) (by decide) d_S_isGroundAbove_5 ?_
  refine lv_aload_n hx hb d_S_isGroundAbove_6 rfl (lv_at hl 0 rfl) ?_
  refine va_get (D := (dC, dI)) (ci := 1) (v := .ref (ad 4)) (C := R_S) (T := T_S) (N := 13) hx hb hw i_S hown hK hP 0 rfl rfl 3 (by decide) (hw _ m_34) (fun _ h9 => h9) rfl d_S_isGroundAbove_7 ?_
  refine lv_iload_n hx hb d_S_isGroundAbove_10 rfl (lv_at hl 1 rfl) ?_
  refine zr_iald hx hb hK hP 4 0 (cA := cI) (n := 60) (g := S 3) rfl rfl (i := a) (by omega) (by omega) (by decide) d_S_isGroundAbove_11 ?_
  have b_1 : zB (-2545620) 2545620 ((S 3 b) - (S 3 a)) := zB.w (zb_sub (iS_a3 hI b) (iS_a3 hI a)) (by decide) (by decide)
  refine zr_isub hx hb d_S_isGroundAbove_12 ?_
  refine zr_abs hx hb (hml.trans hl.1.symm) hown (hw _ m_120) (hw _ m_121) (hw _ m_4) (hw _ m_122) (Nat.le_of_ble_eq_true rfl) (Nat.le_of_ble_eq_true rfl) (Nat.zero_le _) (Nat.zero_le _) (zB.I b_1 (by decide) (by decide)) d_S_isGroundAbove_13 ?_
  have b_2 : zB 0 2545620 (zabs ((S 3 b) - (S 3 a))) := zB.w (zb_zabs (A := 2545620) (zB.w b_1 (by decide) (by decide))) (by decide) (by decide)
  obtain ⟨hl_b_2, hh_b_2⟩ := id b_2
  refine zr_i2l hx hb (zB.I b_2 (by decide) (by decide)) d_S_isGroundAbove_16 ?_
  refine lv_lstore (lv' := [(4, .long (zl (zabs ((S 3 b) - (S 3 a))))), (0, .ref (ad 0)), (1, .int (zi a)), (2, .int (zi b)), (3, .int (zi d))]) hx hb d_S_isGroundAbove_17 hl (by decide) rfl (fun ls hl => ?_)
  refine lv_aload_n hx hb d_S_isGroundAbove_19 rfl (lv_at hl 1 rfl) ?_
  refine va_get (D := (dC, dI)) (ci := 1) (v := .ref (ad 4)) (C := R_S) (T := T_S) (N := 13) hx hb hw i_S hown hK hP 0 rfl rfl 3 (by decide) (hw _ m_34) (fun _ h9 => h9) rfl d_S_isGroundAbove_20 ?_
  refine lv_iload_n hx hb d_S_isGroundAbove_23 rfl (lv_at hl 4 rfl) ?_
  refine zr_iald hx hb hK hP 4 0 (cA := cI) (n := 60) (g := S 3) rfl rfl (i := d) (by omega) (by omega) (by decide) d_S_isGroundAbove_24 ?_
  refine lv_aload_n hx hb d_S_isGroundAbove_25 rfl (lv_at hl 1 rfl) ?_
  refine va_get (D := (dC, dI)) (ci := 1) (v := .ref (ad 4)) (C := R_S) (T := T_S) (N := 13) hx hb hw i_S hown hK hP 0 rfl rfl 3 (by decide) (hw _ m_34) (fun _ h9 => h9) rfl d_S_isGroundAbove_26 ?_
  refine lv_iload_n hx hb d_S_isGroundAbove_29 rfl (lv_at hl 2 rfl) ?_
  refine zr_iald hx hb hK hP 4 0 (cA := cI) (n := 60) (g := S 3) rfl rfl (i := a) (by omega) (by omega) (by decide) d_S_isGroundAbove_30 ?_
  have b_3 : zB (-2545620) 2545620 ((S 3 d) - (S 3 a)) := zB.w (zb_sub (iS_a3 hI d) (iS_a3 hI a)) (by decide) (by decide)
  refine zr_isub hx hb d_S_isGroundAbove_31 ?_
  refine zr_abs hx hb (hml.trans hl.1.symm) hown (hw _ m_120) (hw _ m_121) (hw _ m_4) (hw _ m_122) (Nat.le_of_ble_eq_true rfl) (Nat.le_of_ble_eq_true rfl) (Nat.zero_le _) (Nat.zero_le _) (zB.I b_3 (by decide) (by decide)) d_S_isGroundAbove_32 ?_
  have b_4 : zB 0 2545620 (zabs ((S 3 d) - (S 3 a))) := zB.w (zb_zabs (A := 2545620) (zB.w b_3 (by decide) (by decide))) (by decide) (by decide)
  obtain ⟨hl_b_4, hh_b_4⟩ := id b_4
  refine zr_i2l hx hb (zB.I b_4 (by decide) (by decide)) d_S_isGroundAbove_35 ?_
  refine lv_lstore (lv' := [(6, .long (zl (zabs ((S 3 d) - (S 3 a))))), (4, .long (zl (zabs ((S 3 b) - (S 3 a))))), (0, .ref (ad 0)), (1, .int (zi a)), (2, .int (zi b)), (3, .int (zi d))]) hx hb d_S_isGroundAbove_36 hl (by decide) rfl (fun ls hl => ?_)
  refine lv_lload hx hb d_S_isGroundAbove_38 (lv_at hl 1 rfl) ?_
  refine lv_lload hx hb d_S_isGroundAbove_40 (lv_at hl 0 rfl) ?_
  have b_5 : zB (-2545620) 2545620 ((zabs ((S 3 b) - (S 3 a))) - (zabs ((S 3 d) - (S 3 a)))) := zB.w (zb_sub b_2 b_4) (by decide) (by decide)
  refine zr_lsub hx hb d_S_isGroundAbove_42 ?_
  refine lv_aload_n hx hb d_S_isGroundAbove_43 rfl (lv_at hl 2 rfl) ?_
  refine va_get (D := (dC, dI)) (ci := 1) (v := .ref (ad 3)) (C := R_S) (T := T_S) (N := 13) hx hb hw i_S hown hK hP 0 rfl rfl 2 (by decide) (hw _ m_33) (fun _ h9 => h9) rfl d_S_isGroundAbove_44 ?_
  refine lv_iload_n hx hb d_S_isGroundAbove_47 rfl (lv_at hl 3 rfl) ?_
  refine zr_iald hx hb hK hP 3 0 (cA := cI) (n := 60) (g := S 2) rfl rfl (i := a) (by omega) (by omega) (by decide) d_S_isGroundAbove_48 ?_
  refine lv_aload_n hx hb d_S_isGroundAbove_49 rfl (lv_at hl 2 rfl) ?_
  refine va_get (D := (dC, dI)) (ci := 1) (v := .int (zi (S 11 2))) (C := R_S) (T := T_S) (N := 13) hx hb hw i_S hown hK hP 0 rfl rfl 9 (by decide) (hw _ m_40) (fun _ h9 => h9) rfl d_S_isGroundAbove_50 ?_
  have b_6 : zB (-100000) 101000 ((S 2 a) + (S 11 2)) := zB.w (zb_add (iS_a2 hI a) (iS_s2 hI)) (by decide) (by decide)
  refine zr_iadd hx hb d_S_isGroundAbove_53 ?_
  refine zr_i2l hx hb (zB.I b_6 (by decide) (by decide)) d_S_isGroundAbove_54 ?_
  have b_7 : zB (-257107620000) 257107620000 (((zabs ((S 3 b) - (S 3 a))) - (zabs ((S 3 d) - (S 3 a)))) * ((S 2 a) + (S 11 2))) := zB.w (zb_mul (A := 2545620) (B := 101000) (zB.w b_5 (by decide) (by decide)) (zB.w b_6 (by decide) (by decide))) (by decide) (by decide)
  refine zr_lmul hx hb d_S_isGroundAbove_55 ?_
  refine lv_lload hx hb d_S_isGroundAbove_56 (lv_at hl 0 rfl) ?_
  refine lv_aload_n hx hb d_S_isGroundAbove_58 rfl (lv_at hl 2 rfl) ?_
  refine va_get (D := (dC, dI)) (ci := 1) (v := .ref (ad 3)) (C := R_S) (T := T_S) (N := 13) hx hb hw i_S hown hK hP 0 rfl rfl 2 (by decide) (hw _ m_33) (fun _ h9 => h9) rfl d_S_isGroundAbove_59 ?_
  refine lv_iload_n hx hb d_S_isGroundAbove_62 rfl (lv_at hl 4 rfl) ?_
  refine zr_iald hx hb hK hP 3 0 (cA := cI) (n := 60) (g := S 2) rfl rfl (i := b) (by omega) (by omega) (by decide) d_S_isGroundAbove_63 ?_
  refine lv_aload_n hx hb d_S_isGroundAbove_64 rfl (lv_at hl 2 rfl) ?_
  refine va_get (D := (dC, dI)) (ci := 1) (v := .int (zi (S 11 3))) (C := R_S) (T := T_S) (N := 13) hx hb hw i_S hown hK hP 0 rfl rfl 10 (by decide) (hw _ m_41) (fun _ h9 => h9) rfl d_S_isGroundAbove_65 ?_
  have b_8 : zB (-100000) 101000 ((S 2 b) + (S 11 3)) := zB.w (zb_add (iS_a2 hI b) (iS_s3 hI)) (by decide) (by decide)
  refine zr_iadd hx hb d_S_isGroundAbove_68 ?_
  refine zr_i2l hx hb (zB.I b_8 (by decide) (by decide)) d_S_isGroundAbove_69 ?_
  have b_9 : zB (-257107620000) 257107620000 ((zabs ((S 3 d) - (S 3 a))) * ((S 2 b) + (S 11 3))) := zB.w (zb_mul (A := 2545620) (B := 101000) (zB.w b_4 (by decide) (by decide)) (zB.w b_8 (by decide) (by decide))) (by decide) (by decide)
  refine zr_lmul hx hb d_S_isGroundAbove_70 ?_
  have b_10 : zB (-514215240000) 514215240000 ((((zabs ((S 3 b) - (S 3 a))) - (zabs ((S 3 d) - (S 3 a)))) * ((S 2 a) + (S 11 2))) + ((zabs ((S 3 d) - (S 3 a))) * ((S 2 b) + (S 11 3)))) := zB.w (zb_add b_7 b_9) (by decide) (by decide)
  refine zr_ladd hx hb d_S_isGroundAbove_71 ?_
  refine lv_lstore (lv' := [(8, .long (zl ((((zabs ((S 3 b) - (S 3 a))) - (zabs ((S 3 d) - (S 3 a)))) * ((S 2 a) + (S 11 2))) + ((zabs ((S 3 d) - (S 3 a))) * ((S 2 b) + (S 11 3)))))), (6, .long (zl (zabs ((S 3 d) - (S 3 a))))), (4, .long (zl (zabs ((S 3 b) - (S 3 a))))), (0, .ref (ad 0)), (1, .int (zi a)), (2, .int (zi b)), (3, .int (zi d))]) hx hb d_S_isGroundAbove_72 hl (by decide) rfl (fun ls hl => ?_)
  refine lv_lload hx hb d_S_isGroundAbove_74 (lv_at hl 2 rfl) ?_
  refine lv_aload_n hx hb d_S_isGroundAbove_76 rfl (lv_at hl 3 rfl) ?_
  refine va_get (D := (dC, dI)) (ci := 1) (v := .ref (ad 3)) (C := R_S) (T := T_S) (N := 13) hx hb hw i_S hown hK hP 0 rfl rfl 2 (by decide) (hw _ m_33) (fun _ h9 => h9) rfl d_S_isGroundAbove_77 ?_
  refine lv_iload_n hx hb d_S_isGroundAbove_80 rfl (lv_at hl 6 rfl) ?_
  refine zr_iald hx hb hK hP 3 0 (cA := cI) (n := 60) (g := S 2) rfl rfl (i := d) (by omega) (by omega) (by decide) d_S_isGroundAbove_81 ?_
  refine zr_i2l hx hb (zB.I (iS_a2 hI d) (by decide) (by decide)) d_S_isGroundAbove_82 ?_
  have b_11 : zB (-254562000000) 254562000000 ((zabs ((S 3 b) - (S 3 a))) * (S 2 d)) := zB.w (zb_mul (A := 2545620) (B := 100000) (zB.w b_2 (by decide) (by decide)) (zB.w (iS_a2 hI d) (by decide) (by decide))) (by decide) (by decide)
  refine zr_lmul hx hb d_S_isGroundAbove_83 ?_
  refine lv_lload hx hb d_S_isGroundAbove_84 (lv_at hl 0 rfl) ?_
  refine zr_lcmp_le (tgt := 94) hx hb (zB.L b_11 (by decide) (by decide)) (zB.L b_10 (by decide) (by decide)) d_S_isGroundAbove_86 d_S_isGroundAbove_87 (by decide) (fun c_12 => ?_) (fun c_12 => ?_)
  · replace hq := (if_neg c_12).symm.trans hq
    refine lv_iconst (v := zi 0) hx hb d_S_isGroundAbove_94 rfl ?_
    exact ze_z hx hb hr hlocks (zB.w (zb_c 0) (by decide) (by decide)) hq d_S_isGroundAbove_95
  · replace hq := (if_pos c_12).symm.trans hq
    refine lv_iconst (v := zi 1) hx hb d_S_isGroundAbove_90 rfl ?_
    refine lv_goto (tgt := 95) hx hb d_S_isGroundAbove_91 (by decide) ?_
    exact ze_z hx hb hr hlocks (zB.w (zb_c 1) (by decide) (by decide)) hq d_S_isGroundAbove_95
def f_S_crossAt (S : Nat → Int → Int) (a b d : Int) : Int := (((S 0 b) - (S 0 a)) * ((S 1 d) - (S 1 a))) - (((S 1 b) - (S 1 a)) * ((S 0 d) - (S 0 a)))
theorem br_S_crossAt (S : Nat → Int → Int) (a b d : Int) (hI : iS S) (_ : zB 0 59 a) (_ : zB 0 59 b) (_ : zB 0 59 d) : zB (-1800000000) 1800000000 (f_S_crossAt S a b d) :=
  zB.w (zb_sub (zb_mul (A := 30000) (B := 30000) (zB.w (zb_sub (iS_a0 hI b) (iS_a0 hI a)) (by decide) (by decide)) (zB.w (zb_sub (iS_a1 hI d) (iS_a1 hI a)) (by decide) (by decide))) (zb_mul (A := 30000) (B := 30000) (zB.w (zb_sub (iS_a1 hI b) (iS_a1 hI a)) (by decide) (by decide)) (zB.w (zb_sub (iS_a0 hI d) (iS_a0 hI a)) (by decide) (by decide)))) (by decide) (by decide)
set_option maxHeartbeats 4000000 in
set_option maxRecDepth 100000 in
theorem k_S_crossAt (l : Launch) (dC : Nat → ClassId) (dI : Nat → Nat → Nat) (ad : Nat → Nat) (cI : ClassId) (S : Nat → Int → Int) (k0 k1 k2 k3 : Int) (hI : iS S) (a b d : Int) (hb_a : zB 0 59 a) (hb_b : zB 0 59 b) (hb_d : zB 0 59 d) : Met l y_S_crossAt (Cond.code y_S_crossAt c_S_crossAt 8 (some .long) :: zT) { frames := 0, cells := 0, slots := 0, locals := 0 } (va_Pc ([.ref (ad 0), .int (zi a), .int (zi b), .int (zi d)] : List Value) (zWS dC dI ad cI S k0 k1 k2 k3)) (zR (.long (zl (f_S_crossAt S a b d)))) 0 0 (fun _ => False) := by
  refine zh (cc := c_S_crossAt) (C := R_S) (by decide) rfl rfl (Nat.le_of_ble_eq_true rfl) ?_
  intro p e s m below meth c ls hx hb hr hlocks hml hown hname hts hl hB
  have hw : ∀ w9 ∈ zT, w9.before ([.ref (ad 0), .int (zi a), .int (zi b), .int (zi d)] : List Value).toArray s = true := fun w9 h => hts w9 (List.mem_cons_of_mem _ h)
  obtain ⟨hP, hK, hN⟩ := hB
  obtain ⟨hn0, hn1⟩ := id (iS_s0 hI)
  obtain ⟨hz0, hz1⟩ := id (iS_s6 hI)
  obtain ⟨hl_a, hh_a⟩ := id hb_a
  obtain ⟨hl_b, hh_b⟩ := id hb_b
  obtain ⟨hl_d, hh_d⟩ := id hb_d
  generalize hq : f_S_crossAt S a b d = r
  unfold f_S_crossAt at hq
  replace hl : lv_has ls 8 [(0, .ref (ad 0)), (1, .int (zi a)), (2, .int (zi b)), (3, .int (zi d))] := hl
  refine lv_aload_n hx hb d_S_crossAt_0 rfl (lv_at hl 0 rfl) ?_
  refine va_get (D := (dC, dI)) (ci := 1) (v := .ref (ad 1)) (C := R_S) (T := T_S) (N := 13) hx hb hw i_S hown hK hP 0 rfl rfl 0 (by decide) (hw _ m_31) (fun _ h9 => h9) rfl d_S_crossAt_1 ?_
  refine lv_iload_n hx hb d_S_crossAt_4 rfl (lv_at hl 2 rfl) ?_
  refine zr_iald hx hb hK hP 1 0 (cA := cI) (n := 60) (g := S 0) rfl rfl (i := b) (by omega) (by omega) (by decide) d_S_crossAt_5 ?_
  refine lv_aload_n hx hb d_S_crossAt_6 rfl (lv_at hl 0 rfl) ?_
  refine va_get (D := (dC, dI)) (ci := 1) (v := .ref (ad 1)) (C := R_S) (T := T_S) (N := 13) hx hb hw i_S hown hK hP 0 rfl rfl 0 (by decide) (hw _ m_31) (fun _ h9 => h9) rfl d_S_crossAt_7 ?_
  refine lv_iload_n hx hb d_S_crossAt_10 rfl (lv_at hl 1 rfl) ?_
  refine zr_iald hx hb hK hP 1 0 (cA := cI) (n := 60) (g := S 0) rfl rfl (i := a) (by omega) (by omega) (by decide) d_S_crossAt_11 ?_
  have b_1 : zB (-30000) 30000 ((S 0 b) - (S 0 a)) := zB.w (zb_sub (iS_a0 hI b) (iS_a0 hI a)) (by decide) (by decide)
  refine zr_isub hx hb d_S_crossAt_12 ?_
  refine zr_i2l hx hb (zB.I b_1 (by decide) (by decide)) d_S_crossAt_13 ?_
  refine lv_lstore (lv' := [(4, .long (zl ((S 0 b) - (S 0 a)))), (0, .ref (ad 0)), (1, .int (zi a)), (2, .int (zi b)), (3, .int (zi d))]) hx hb d_S_crossAt_14 hl (by decide) rfl (fun ls hl => ?_)
  refine lv_aload_n hx hb d_S_crossAt_16 rfl (lv_at hl 1 rfl) ?_
  refine va_get (D := (dC, dI)) (ci := 1) (v := .ref (ad 2)) (C := R_S) (T := T_S) (N := 13) hx hb hw i_S hown hK hP 0 rfl rfl 1 (by decide) (hw _ m_32) (fun _ h9 => h9) rfl d_S_crossAt_17 ?_
  refine lv_iload_n hx hb d_S_crossAt_20 rfl (lv_at hl 3 rfl) ?_
  refine zr_iald hx hb hK hP 2 0 (cA := cI) (n := 60) (g := S 1) rfl rfl (i := b) (by omega) (by omega) (by decide) d_S_crossAt_21 ?_
  refine lv_aload_n hx hb d_S_crossAt_22 rfl (lv_at hl 1 rfl) ?_
  refine va_get (D := (dC, dI)) (ci := 1) (v := .ref (ad 2)) (C := R_S) (T := T_S) (N := 13) hx hb hw i_S hown hK hP 0 rfl rfl 1 (by decide) (hw _ m_32) (fun _ h9 => h9) rfl d_S_crossAt_23 ?_
  refine lv_iload_n hx hb d_S_crossAt_26 rfl (lv_at hl 2 rfl) ?_
  refine zr_iald hx hb hK hP 2 0 (cA := cI) (n := 60) (g := S 1) rfl rfl (i := a) (by omega) (by omega) (by decide) d_S_crossAt_27 ?_
  have b_2 : zB (-30000) 30000 ((S 1 b) - (S 1 a)) := zB.w (zb_sub (iS_a1 hI b) (iS_a1 hI a)) (by decide) (by decide)
  refine zr_isub hx hb d_S_crossAt_28 ?_
  refine zr_i2l hx hb (zB.I b_2 (by decide) (by decide)) d_S_crossAt_29 ?_
  refine lv_lstore (lv' := [(6, .long (zl ((S 1 b) - (S 1 a)))), (4, .long (zl ((S 0 b) - (S 0 a)))), (0, .ref (ad 0)), (1, .int (zi a)), (2, .int (zi b)), (3, .int (zi d))]) hx hb d_S_crossAt_30 hl (by decide) rfl (fun ls hl => ?_)
  refine lv_lload hx hb d_S_crossAt_32 (lv_at hl 1 rfl) ?_
  refine lv_aload_n hx hb d_S_crossAt_34 rfl (lv_at hl 2 rfl) ?_
  refine va_get (D := (dC, dI)) (ci := 1) (v := .ref (ad 2)) (C := R_S) (T := T_S) (N := 13) hx hb hw i_S hown hK hP 0 rfl rfl 1 (by decide) (hw _ m_32) (fun _ h9 => h9) rfl d_S_crossAt_35 ?_
  refine lv_iload_n hx hb d_S_crossAt_38 rfl (lv_at hl 5 rfl) ?_
  refine zr_iald hx hb hK hP 2 0 (cA := cI) (n := 60) (g := S 1) rfl rfl (i := d) (by omega) (by omega) (by decide) d_S_crossAt_39 ?_
  refine lv_aload_n hx hb d_S_crossAt_40 rfl (lv_at hl 2 rfl) ?_
  refine va_get (D := (dC, dI)) (ci := 1) (v := .ref (ad 2)) (C := R_S) (T := T_S) (N := 13) hx hb hw i_S hown hK hP 0 rfl rfl 1 (by decide) (hw _ m_32) (fun _ h9 => h9) rfl d_S_crossAt_41 ?_
  refine lv_iload_n hx hb d_S_crossAt_44 rfl (lv_at hl 3 rfl) ?_
  refine zr_iald hx hb hK hP 2 0 (cA := cI) (n := 60) (g := S 1) rfl rfl (i := a) (by omega) (by omega) (by decide) d_S_crossAt_45 ?_
  have b_3 : zB (-30000) 30000 ((S 1 d) - (S 1 a)) := zB.w (zb_sub (iS_a1 hI d) (iS_a1 hI a)) (by decide) (by decide)
  refine zr_isub hx hb d_S_crossAt_46 ?_
  refine zr_i2l hx hb (zB.I b_3 (by decide) (by decide)) d_S_crossAt_47 ?_
  have b_4 : zB (-900000000) 900000000 (((S 0 b) - (S 0 a)) * ((S 1 d) - (S 1 a))) := zB.w (zb_mul (A := 30000) (B := 30000) (zB.w b_1 (by decide) (by decide)) (zB.w b_3 (by decide) (by decide))) (by decide) (by decide)
  refine zr_lmul hx hb d_S_crossAt_48 ?_
  refine lv_lload hx hb d_S_crossAt_49 (lv_at hl 0 rfl) ?_
  refine lv_aload_n hx hb d_S_crossAt_51 rfl (lv_at hl 2 rfl) ?_
  refine va_get (D := (dC, dI)) (ci := 1) (v := .ref (ad 1)) (C := R_S) (T := T_S) (N := 13) hx hb hw i_S hown hK hP 0 rfl rfl 0 (by decide) (hw _ m_31) (fun _ h9 => h9) rfl d_S_crossAt_52 ?_
  refine lv_iload_n hx hb d_S_crossAt_55 rfl (lv_at hl 5 rfl) ?_
  refine zr_iald hx hb hK hP 1 0 (cA := cI) (n := 60) (g := S 0) rfl rfl (i := d) (by omega) (by omega) (by decide) d_S_crossAt_56 ?_
  refine lv_aload_n hx hb d_S_crossAt_57 rfl (lv_at hl 2 rfl) ?_
  refine va_get (D := (dC, dI)) (ci := 1) (v := .ref (ad 1)) (C := R_S) (T := T_S) (N := 13) hx hb hw i_S hown hK hP 0 rfl rfl 0 (by decide) (hw _ m_31) (fun _ h9 => h9) rfl d_S_crossAt_58 ?_
  refine lv_iload_n hx hb d_S_crossAt_61 rfl (lv_at hl 3 rfl) ?_
  refine zr_iald hx hb hK hP 1 0 (cA := cI) (n := 60) (g := S 0) rfl rfl (i := a) (by omega) (by omega) (by decide) d_S_crossAt_62 ?_
  have b_5 : zB (-30000) 30000 ((S 0 d) - (S 0 a)) := zB.w (zb_sub (iS_a0 hI d) (iS_a0 hI a)) (by decide) (by decide)
  refine zr_isub hx hb d_S_crossAt_63 ?_
  refine zr_i2l hx hb (zB.I b_5 (by decide) (by decide)) d_S_crossAt_64 ?_
  have b_6 : zB (-900000000) 900000000 (((S 1 b) - (S 1 a)) * ((S 0 d) - (S 0 a))) := zB.w (zb_mul (A := 30000) (B := 30000) (zB.w b_2 (by decide) (by decide)) (zB.w b_5 (by decide) (by decide))) (by decide) (by decide)
  refine zr_lmul hx hb d_S_crossAt_65 ?_
  have b_7 : zB (-1800000000) 1800000000 ((((S 0 b) - (S 0 a)) * ((S 1 d) - (S 1 a))) - (((S 1 b) - (S 1 a)) * ((S 0 d) - (S 0 a)))) := zB.w (zb_sub b_4 b_6) (by decide) (by decide)
  refine zr_lsub hx hb d_S_crossAt_66 ?_
  exact ze_l hx hb hr hlocks hq d_S_crossAt_67
def f_S_sideOf (v : Int) : Int := if v < 0 then (0) else (1)
theorem br_S_sideOf (v : Int) (_ : zB (-1800000000) 1800000000 v) : zB 0 1 (f_S_sideOf v) := by
  unfold f_S_sideOf
  split <;> exact ⟨by decide, by decide⟩
set_option maxHeartbeats 4000000 in
set_option maxRecDepth 100000 in
theorem k_S_sideOf (l : Launch) (v : Int) (hb_v : zB (-1800000000) 1800000000 v) : Met l y_S_sideOf (Cond.code y_S_sideOf c_S_sideOf 2 (some .int) :: zT) { frames := 0, cells := 0, slots := 0, locals := 0 } (va_Pc ([.long (zl v)] : List Value) (fun _ => True)) (zR (.int (zi (f_S_sideOf v)))) 0 0 (fun _ => False) := by
  refine zh (cc := c_S_sideOf) (C := R_S) (by decide) rfl rfl (Nat.le_of_ble_eq_true rfl) ?_
  intro p e s m below meth c ls hx hb hr hlocks hml hown hname hts hl hB
  have hw : ∀ w9 ∈ zT, w9.before ([.long (zl v)] : List Value).toArray s = true := fun w9 h => hts w9 (List.mem_cons_of_mem _ h)
  obtain ⟨hl_v, hh_v⟩ := id hb_v
  generalize hq : f_S_sideOf v = r
  unfold f_S_sideOf at hq
  replace hl : lv_has ls 2 [(0, .long (zl v))] := hl
  refine lv_lload_n hx hb d_S_sideOf_0 rfl (lv_at hl 0 rfl) ?_
  refine lv_lconst (v := zl 0) hx hb d_S_sideOf_1 (by decide) ?_
  refine zr_lcmp_ge (tgt := 10) hx hb (zB.L hb_v (by decide) (by decide)) (zB.L (zb_c 0) (by decide) (by decide)) d_S_sideOf_2 d_S_sideOf_3 (by decide) (fun c_1 => ?_) (fun c_1 => ?_)
  · replace hq := (if_neg c_1).symm.trans hq
    have r_2 : zB 0 1800000000 v := ⟨(Int.not_lt.mp c_1), hb_v.2⟩
    refine lv_iconst (v := zi 1) hx hb d_S_sideOf_10 rfl ?_
    exact ze_i hx hb hr hlocks hq d_S_sideOf_11
  · replace hq := (if_pos c_1).symm.trans hq
    have r_3 : zB (-1800000000) (-1) v := ⟨hb_v.1, (Int.le_sub_one_of_lt c_1)⟩
    refine lv_iconst (v := zi 0) hx hb d_S_sideOf_6 rfl ?_
    refine lv_goto (tgt := 11) hx hb d_S_sideOf_7 (by decide) ?_
    exact ze_i hx hb hr hlocks hq d_S_sideOf_11
def f_S_isFarther (a b d : Int) : Int := if ((d * d) * b) < (a * a) then (1) else (0)
theorem bb_S_isFarther (a b d : Int) : zB 0 1 (f_S_isFarther a b d) := by
  unfold f_S_isFarther
  repeat' split
  all_goals first | exact ⟨by decide, by decide⟩  | apply bb_S_isWithin
set_option maxHeartbeats 4000000 in
set_option maxRecDepth 100000 in
theorem k_S_isFarther (l : Launch) (a b d : Int) (hb_a : zB (-1800000000) 1800000000 a) (hb_b : zB 0 1800000000 b) (hb_d : zB (-1) 1001 d) : Met l y_S_isFarther (Cond.code y_S_isFarther c_S_isFarther 6 (some .boolean) :: zT) { frames := 0, cells := 0, slots := 0, locals := 0 } (va_Pc ([.long (zl a), .long (zl b), .long (zl d)] : List Value) (fun _ => True)) (zR (.int (zi (f_S_isFarther a b d)))) 0 0 (fun _ => False) := by
  refine zh (cc := c_S_isFarther) (C := R_S) (by decide) rfl rfl (Nat.le_of_ble_eq_true rfl) ?_
  intro p e s m below meth c ls hx hb hr hlocks hml hown hname hts hl hB
  have hw : ∀ w9 ∈ zT, w9.before ([.long (zl a), .long (zl b), .long (zl d)] : List Value).toArray s = true := fun w9 h => hts w9 (List.mem_cons_of_mem _ h)
  obtain ⟨hl_a, hh_a⟩ := id hb_a
  obtain ⟨hl_b, hh_b⟩ := id hb_b
  obtain ⟨hl_d, hh_d⟩ := id hb_d
  generalize hq : f_S_isFarther a b d = r
  unfold f_S_isFarther at hq
  replace hl : lv_has ls 6 [(0, .long (zl a)), (2, .long (zl b)), (4, .long (zl d))] := hl
  refine lv_lload_n hx hb d_S_isFarther_0 rfl (lv_at hl 0 rfl) ?_
  refine lv_lload_n hx hb d_S_isFarther_1 rfl (lv_at hl 0 rfl) ?_
  have b_1 : zB 0 3240000000000000000 (a * a) := zB.w (zb_sq (A := 1800000000) (zB.w hb_a (by decide) (by decide))) (by decide) (by decide)
  refine zr_lmul hx hb d_S_isFarther_2 ?_
  refine lv_lload hx hb d_S_isFarther_3 (lv_at hl 2 rfl) ?_
  refine lv_lload hx hb d_S_isFarther_5 (lv_at hl 2 rfl) ?_
  have b_2 : zB 0 1002001 (d * d) := zB.w (zb_sq (A := 1001) (zB.w hb_d (by decide) (by decide))) (by decide) (by decide)
  refine zr_lmul hx hb d_S_isFarther_7 ?_
  refine lv_lload_n hx hb d_S_isFarther_8 rfl (lv_at hl 1 rfl) ?_
  have b_3 : zB 0 1803601800000000 ((d * d) * b) := zB.w (zb_mulq b_2 hb_b (by decide) (by decide)) (by decide) (by decide)
  refine zr_lmul hx hb d_S_isFarther_9 ?_
  refine zr_lcmp_le (tgt := 18) hx hb (zB.L b_1 (by decide) (by decide)) (zB.L b_3 (by decide) (by decide)) d_S_isFarther_10 d_S_isFarther_11 (by decide) (fun c_4 => ?_) (fun c_4 => ?_)
  · replace hq := (if_neg c_4).symm.trans hq
    refine lv_iconst (v := zi 0) hx hb d_S_isFarther_18 rfl ?_
    exact ze_z hx hb hr hlocks (zB.w (zb_c 0) (by decide) (by decide)) hq d_S_isFarther_19
  · replace hq := (if_pos c_4).symm.trans hq
    refine lv_iconst (v := zi 1) hx hb d_S_isFarther_14 rfl ?_
    refine lv_goto (tgt := 19) hx hb d_S_isFarther_15 (by decide) ?_
    exact ze_z hx hb hr hlocks (zB.w (zb_c 1) (by decide) (by decide)) hq d_S_isFarther_19
def f_S_isBankInWay (S : Nat → Int → Int) (a b d : Int) : Int := if (f_S_crossAt S a b d) = 0 then (0) else (if (S 5 ((2 * d) + (f_S_sideOf (f_S_crossAt S a b d)))) = (-1) then (0) else (if (f_S_isFarther (f_S_crossAt S a b d) (f_S_squareBetween S a b) (S 5 ((2 * d) + (f_S_sideOf (f_S_crossAt S a b d))))) = 0 then (0) else (1)))
theorem bb_S_isBankInWay (S : Nat → Int → Int) (a b d : Int) : zB 0 1 (f_S_isBankInWay S a b d) := by
  unfold f_S_isBankInWay
  repeat' split
  all_goals first | exact ⟨by decide, by decide⟩  | apply bb_S_isWithin
set_option maxHeartbeats 4000000 in
set_option maxRecDepth 100000 in
theorem k_S_isBankInWay (l : Launch) (dC : Nat → ClassId) (dI : Nat → Nat → Nat) (ad : Nat → Nat) (cI : ClassId) (S : Nat → Int → Int) (k0 k1 k2 k3 : Int) (hI : iS S) (a b d : Int) (hb_a : zB 0 59 a) (hb_b : zB 0 59 b) (hb_d : zB 0 59 d) : Met l y_S_isBankInWay (Cond.code y_S_isBankInWay c_S_isBankInWay 7 (some .boolean) :: zT) { frames := 2, cells := 0, slots := 0, locals := 45 } (va_Pc ([.ref (ad 0), .int (zi a), .int (zi b), .int (zi d)] : List Value) (zWS dC dI ad cI S k0 k1 k2 k3)) (zR (.int (zi (f_S_isBankInWay S a b d)))) 0 0 (fun _ => False) := by
  refine zh (cc := c_S_isBankInWay) (C := R_S) (by decide) rfl rfl (Nat.le_of_ble_eq_true rfl) ?_
  intro p e s m below meth c ls hx hb hr hlocks hml hown hname hts hl hB
  have hw : ∀ w9 ∈ zT, w9.before ([.ref (ad 0), .int (zi a), .int (zi b), .int (zi d)] : List Value).toArray s = true := fun w9 h => hts w9 (List.mem_cons_of_mem _ h)
  obtain ⟨hP, hK, hN⟩ := hB
  obtain ⟨hn0, hn1⟩ := id (iS_s0 hI)
  obtain ⟨hz0, hz1⟩ := id (iS_s6 hI)
  obtain ⟨hl_a, hh_a⟩ := id hb_a
  obtain ⟨hl_b, hh_b⟩ := id hb_b
  obtain ⟨hl_d, hh_d⟩ := id hb_d
  generalize hq : f_S_isBankInWay S a b d = r
  unfold f_S_isBankInWay at hq
  replace hl : lv_has ls 7 [(0, .ref (ad 0)), (1, .int (zi a)), (2, .int (zi b)), (3, .int (zi d))] := hl
  refine lv_aload_n hx hb d_S_isBankInWay_0 rfl (lv_at hl 0 rfl) ?_
  refine lv_iload_n hx hb d_S_isBankInWay_1 rfl (lv_at hl 1 rfl) ?_
  refine lv_iload_n hx hb d_S_isBankInWay_2 rfl (lv_at hl 2 rfl) ?_
  refine lv_iload_n hx hb d_S_isBankInWay_3 rfl (lv_at hl 3 rfl) ?_
  refine zc_n (va_runV (As := [.int (zi a), .int (zi b), .int (zi d)]) (rest := []) ⟨hx, hb, hml, hown, hts⟩ (k_S_crossAt l dC dI ad cI S k0 k1 k2 k3 hI a b d (zB.w hb_a (by decide) (by decide)) (zB.w hb_b (by decide) (by decide)) (zB.w hb_d (by decide) (by decide)) ) (zcV 3 hts m_128 m_1 m_126 m_127 m_379 rfl rfl q_S_crossAt ⟨Nat.le_of_ble_eq_true rfl, Nat.le_of_ble_eq_true rfl⟩) (zpS0 hP hK hN [.int (zi a), .int (zi b), .int (zi d)]) rfl rfl hl.1 rfl (lv_room (Nat.le_of_ble_eq_true rfl)) d_S_isBankInWay_4 ⟨Nat.zero_le _, Nat.zero_le _⟩) ?_
  have b_1 : zB (-1800000000) 1800000000 (f_S_crossAt S a b d) := br_S_crossAt S a b d hI (zB.w hb_a (by decide) (by decide)) (zB.w hb_b (by decide) (by decide)) (zB.w hb_d (by decide) (by decide)) 
  refine lv_lstore (lv' := [(4, .long (zl (f_S_crossAt S a b d))), (0, .ref (ad 0)), (1, .int (zi a)), (2, .int (zi b)), (3, .int (zi d))]) hx hb d_S_isBankInWay_7 hl (by decide) rfl (fun ls hl => ?_)
  refine lv_lload hx hb d_S_isBankInWay_9 (lv_at hl 0 rfl) ?_
  refine lv_lconst (v := zl 0) hx hb d_S_isBankInWay_11 (by decide) ?_
  refine zr_lcmp_ne (tgt := 18) hx hb (zB.L b_1 (by decide) (by decide)) (zB.L (zb_c 0) (by decide) (by decide)) d_S_isBankInWay_12 d_S_isBankInWay_13 (by decide) (fun c_2 => ?_) (fun c_2 => ?_)
  · replace hq := (if_neg c_2).symm.trans hq
    refine lv_aload_n hx hb d_S_isBankInWay_18 rfl (lv_at hl 1 rfl) ?_
    refine va_get (D := (dC, dI)) (ci := 1) (v := .ref (ad 6)) (C := R_S) (T := T_S) (N := 13) hx hb hw i_S hown hK hP 0 rfl rfl 5 (by decide) (hw _ m_36) (fun _ h9 => h9) rfl d_S_isBankInWay_19 ?_
    refine lv_iconst (v := zi 2) hx hb d_S_isBankInWay_22 rfl ?_
    refine lv_iload_n hx hb d_S_isBankInWay_23 rfl (lv_at hl 4 rfl) ?_
    have b_3 : zB 0 118 (2 * d) := zB.w (zb_mulq (zb_c 2) hb_d (by decide) (by decide)) (by decide) (by decide)
    refine zr_imul hx hb d_S_isBankInWay_24 ?_
    refine lv_lload hx hb d_S_isBankInWay_25 (lv_at hl 0 rfl) ?_
    refine zc_n (va_runS (As := [.long (zl (f_S_crossAt S a b d))]) (rest := [.int (zi (2 * d)), .ref (ad 6)]) ⟨hx, hb, hml, hown, hts⟩ (k_S_sideOf l (f_S_crossAt S a b d) (zB.w b_1 (by decide) (by decide)) ) (zcS 1 hts m_131 m_1 m_129 m_130 rfl rfl q_S_sideOf ⟨Nat.le_of_ble_eq_true rfl, Nat.le_of_ble_eq_true rfl⟩) (zp0 [.long (zl (f_S_crossAt S a b d))]) rfl rfl hl.1 rfl (lv_room (Nat.le_of_ble_eq_true rfl)) d_S_isBankInWay_27 ⟨Nat.zero_le _, Nat.zero_le _⟩) ?_
    have b_4 : zB 0 1 (f_S_sideOf (f_S_crossAt S a b d)) := br_S_sideOf (f_S_crossAt S a b d) (zB.w b_1 (by decide) (by decide)) 
    obtain ⟨hl_b_4, hh_b_4⟩ := id b_4
    have b_5 : zB 0 119 ((2 * d) + (f_S_sideOf (f_S_crossAt S a b d))) := zB.w (zb_add b_3 b_4) (by decide) (by decide)
    refine zr_iadd hx hb d_S_isBankInWay_30 ?_
    refine zr_iald hx hb hK hP 6 0 (cA := cI) (n := 120) (g := S 5) rfl rfl (i := (2 * d) + (f_S_sideOf (f_S_crossAt S a b d))) (by omega) (by omega) (by decide) d_S_isBankInWay_31 ?_
    refine lv_istore (lv' := [(6, .int (zi (S 5 ((2 * d) + (f_S_sideOf (f_S_crossAt S a b d)))))), (4, .long (zl (f_S_crossAt S a b d))), (0, .ref (ad 0)), (1, .int (zi a)), (2, .int (zi b)), (3, .int (zi d))]) hx hb d_S_isBankInWay_32 hl (by decide) rfl (fun ls hl => ?_)
    refine lv_iload hx hb d_S_isBankInWay_34 (lv_at hl 0 rfl) ?_
    refine lv_iconst (v := zi (-1)) hx hb d_S_isBankInWay_36 rfl ?_
    refine zr_icmp_eq (tgt := 61) hx hb (zB.I (iS_a5 hI ((2 * d) + (f_S_sideOf (f_S_crossAt S a b d)))) (by decide) (by decide)) (zB.I (zb_c (-1)) (by decide) (by decide)) d_S_isBankInWay_37 (by decide) (fun c_6 => ?_) (fun c_6 => ?_)
    · replace hq := (if_pos c_6).symm.trans hq
      have r_7 : zB (-1) (-1) (S 5 ((2 * d) + (f_S_sideOf (f_S_crossAt S a b d)))) := ⟨(Int.le_of_eq c_6.symm), (Int.le_of_eq c_6)⟩
      refine lv_iconst (v := zi 0) hx hb d_S_isBankInWay_61 rfl ?_
      exact ze_z hx hb hr hlocks (zB.w (zb_c 0) (by decide) (by decide)) hq d_S_isBankInWay_62
    · replace hq := (if_neg c_6).symm.trans hq
      have r_8 : zB 0 1000 (S 5 ((2 * d) + (f_S_sideOf (f_S_crossAt S a b d)))) := ⟨(by have := (iS_a5 hI ((2 * d) + (f_S_sideOf (f_S_crossAt S a b d)))).1; omega), (iS_a5 hI ((2 * d) + (f_S_sideOf (f_S_crossAt S a b d)))).2⟩
      refine lv_lload hx hb d_S_isBankInWay_40 (lv_at hl 1 rfl) ?_
      refine lv_aload_n hx hb d_S_isBankInWay_42 rfl (lv_at hl 2 rfl) ?_
      refine lv_iload_n hx hb d_S_isBankInWay_43 rfl (lv_at hl 3 rfl) ?_
      refine lv_iload_n hx hb d_S_isBankInWay_44 rfl (lv_at hl 4 rfl) ?_
      refine zc_n (va_runV (As := [.int (zi a), .int (zi b)]) (rest := [.long (zl (f_S_crossAt S a b d))]) ⟨hx, hb, hml, hown, hts⟩ (k_S_squareBetween l dC dI ad cI S k0 k1 k2 k3 hI a b (zB.w hb_a (by decide) (by decide)) (zB.w hb_b (by decide) (by decide)) ) (zcV 2 hts m_64 m_1 m_62 m_63 m_373 rfl rfl q_S_squareBetween ⟨Nat.le_of_ble_eq_true rfl, Nat.le_of_ble_eq_true rfl⟩) (zpS0 hP hK hN [.int (zi a), .int (zi b)]) rfl rfl hl.1 rfl (lv_room (Nat.le_of_ble_eq_true rfl)) d_S_isBankInWay_45 ⟨Nat.zero_le _, Nat.zero_le _⟩) ?_
      have b_9 : zB 0 1800000000 (f_S_squareBetween S a b) := br_S_squareBetween S a b hI (zB.w hb_a (by decide) (by decide)) (zB.w hb_b (by decide) (by decide)) 
      refine lv_iload hx hb d_S_isBankInWay_48 (lv_at hl 0 rfl) ?_
      refine zr_i2l hx hb (zB.I r_8 (by decide) (by decide)) d_S_isBankInWay_50 ?_
      refine zc_n (va_runS (As := [.long (zl (f_S_crossAt S a b d)), .long (zl (f_S_squareBetween S a b)), .long (zl (S 5 ((2 * d) + (f_S_sideOf (f_S_crossAt S a b d)))))]) (rest := []) ⟨hx, hb, hml, hown, hts⟩ (k_S_isFarther l (f_S_crossAt S a b d) (f_S_squareBetween S a b) (S 5 ((2 * d) + (f_S_sideOf (f_S_crossAt S a b d)))) (zB.w b_1 (by decide) (by decide)) (zB.w b_9 (by decide) (by decide)) (zB.w r_8 (by decide) (by decide)) ) (zcS 3 hts m_134 m_1 m_132 m_133 rfl rfl q_S_isFarther ⟨Nat.le_of_ble_eq_true rfl, Nat.le_of_ble_eq_true rfl⟩) (zp0 [.long (zl (f_S_crossAt S a b d)), .long (zl (f_S_squareBetween S a b)), .long (zl (S 5 ((2 * d) + (f_S_sideOf (f_S_crossAt S a b d)))))]) rfl rfl hl.1 rfl (lv_room (Nat.le_of_ble_eq_true rfl)) d_S_isBankInWay_51 ⟨Nat.zero_le _, Nat.zero_le _⟩) ?_
      refine zr_if_eq (tgt := 61) hx hb (zB.I (bb_S_isFarther (f_S_crossAt S a b d) (f_S_squareBetween S a b) (S 5 ((2 * d) + (f_S_sideOf (f_S_crossAt S a b d))))) (by decide) (by decide)) d_S_isBankInWay_54 (by decide) (fun c_10 => ?_) (fun c_10 => ?_)
      · replace hq := (if_pos c_10).symm.trans hq
        have r_11 : zB 0 0 (f_S_isFarther (f_S_crossAt S a b d) (f_S_squareBetween S a b) (S 5 ((2 * d) + (f_S_sideOf (f_S_crossAt S a b d))))) := ⟨(Int.le_of_eq c_10.symm), (Int.le_of_eq c_10)⟩
        refine lv_iconst (v := zi 0) hx hb d_S_isBankInWay_61 rfl ?_
        exact ze_z hx hb hr hlocks (zB.w (zb_c 0) (by decide) (by decide)) hq d_S_isBankInWay_62
      · replace hq := (if_neg c_10).symm.trans hq
        have r_12 : zB 1 1 (f_S_isFarther (f_S_crossAt S a b d) (f_S_squareBetween S a b) (S 5 ((2 * d) + (f_S_sideOf (f_S_crossAt S a b d))))) := ⟨(by have := (bb_S_isFarther (f_S_crossAt S a b d) (f_S_squareBetween S a b) (S 5 ((2 * d) + (f_S_sideOf (f_S_crossAt S a b d))))).1; omega), (bb_S_isFarther (f_S_crossAt S a b d) (f_S_squareBetween S a b) (S 5 ((2 * d) + (f_S_sideOf (f_S_crossAt S a b d))))).2⟩
        refine lv_iconst (v := zi 1) hx hb d_S_isBankInWay_57 rfl ?_
        refine lv_goto (tgt := 62) hx hb d_S_isBankInWay_58 (by decide) ?_
        exact ze_z hx hb hr hlocks (zB.w (zb_c 1) (by decide) (by decide)) hq d_S_isBankInWay_62
  · replace hq := (if_pos c_2).symm.trans hq
    have r_13 : zB 0 0 (f_S_crossAt S a b d) := ⟨(Int.le_of_eq c_2.symm), (Int.le_of_eq c_2)⟩
    refine lv_iconst (v := zi 0) hx hb d_S_isBankInWay_16 rfl ?_
    exact ze_z hx hb hr hlocks (zB.w (zb_c 0) (by decide) (by decide)) hq d_S_isBankInWay_17
def f_S_widened_l (S : Nat → Int → Int) (w : Int) (a : Int) (b : Int) (d : Int) (v : Int) (z : Int → Int) : Nat → Int → Int
  | 0, _ => 0
  | k + 1, t => if 1000 < t then (z t) else (if (f_S_isFarther (f_S_crossAt S a b d) (f_S_squareBetween S a b) t) = 0 then (z t) else (f_S_widened_l S w a b d v z k (t + 1)))
theorem f_S_widened_l_s (S : Nat → Int → Int) (w : Int) (a : Int) (b : Int) (d : Int) (v : Int) (z : Int → Int) (k : Nat) (t : Int) : f_S_widened_l S w a b d v z (k + 1) t = (if 1000 < t then (z t) else (if (f_S_isFarther (f_S_crossAt S a b d) (f_S_squareBetween S a b) t) = 0 then (z t) else (f_S_widened_l S w a b d v z k (t + 1)))) := rfl
def f_S_widened (S : Nat → Int → Int) (w a b d v : Int) : Int := if (f_S_crossAt S a b d) = 0 then (w) else (if (f_S_sideOf (f_S_crossAt S a b d)) = v then (f_S_widened_l S w a b d v (fun t => t) 1003 w) else (w))
theorem br_S_widened (S : Nat → Int → Int) (w a b d v : Int) (_ : iS S) (hw : zB 0 1001 w) (_ : zB 0 59 a) (_ : zB 0 59 b) (_ : zB 0 59 d) (_ : zB 0 1 v) : zB 0 1001 (f_S_widened S w a b d v) := by
  have key : ∀ (k : Nat) (t : Int), zB 0 1001 t → zB 0 1001 (f_S_widened_l S w a b d v (fun t => t) k t) := by
    intro k
    induction k with
    | zero => intro t h; show zB 0 1001 0; exact ⟨by decide, by decide⟩
    | succ k ih =>
      intro t h
      obtain ⟨h1, h2⟩ := id h
      rw [f_S_widened_l_s]
      repeat' split
      all_goals first | exact h | exact ih _ ⟨by omega, by omega⟩
  unfold f_S_widened
  repeat' split
  all_goals first | exact hw | exact key _ _ hw
set_option maxHeartbeats 4000000 in
set_option maxRecDepth 100000 in
theorem k_S_widened (l : Launch) (dC : Nat → ClassId) (dI : Nat → Nat → Nat) (ad : Nat → Nat) (cI : ClassId) (S : Nat → Int → Int) (k0 k1 k2 k3 : Int) (hI : iS S) (w a b d v : Int) (hb_w : zB 0 1001 w) (hb_a : zB 0 59 a) (hb_b : zB 0 59 b) (hb_d : zB 0 59 d) (hb_v : zB 0 1 v) : Met l y_S_widened (Cond.code y_S_widened c_S_widened 11 (some .int) :: zT) { frames := 2, cells := 0, slots := 0, locals := 45 } (va_Pc ([.ref (ad 0), .int (zi w), .int (zi a), .int (zi b), .int (zi d), .int (zi v)] : List Value) (zWS dC dI ad cI S k0 k1 k2 k3)) (zR (.int (zi (f_S_widened S w a b d v)))) 0 0 (fun _ => False) := by
  refine zh (cc := c_S_widened) (C := R_S) (by decide) rfl rfl (Nat.le_of_ble_eq_true rfl) ?_
  intro p e s m below meth c ls hx hb hr hlocks hml hown hname hts hl hB
  have hw : ∀ w9 ∈ zT, w9.before ([.ref (ad 0), .int (zi w), .int (zi a), .int (zi b), .int (zi d), .int (zi v)] : List Value).toArray s = true := fun w9 h => hts w9 (List.mem_cons_of_mem _ h)
  obtain ⟨hP, hK, hN⟩ := hB
  obtain ⟨hn0, hn1⟩ := id (iS_s0 hI)
  obtain ⟨hz0, hz1⟩ := id (iS_s6 hI)
  obtain ⟨hl_w, hh_w⟩ := id hb_w
  obtain ⟨hl_a, hh_a⟩ := id hb_a
  obtain ⟨hl_b, hh_b⟩ := id hb_b
  obtain ⟨hl_d, hh_d⟩ := id hb_d
  obtain ⟨hl_v, hh_v⟩ := id hb_v
  generalize hq : f_S_widened S w a b d v = r
  unfold f_S_widened at hq
  replace hl : lv_has ls 11 [(0, .ref (ad 0)), (1, .int (zi w)), (2, .int (zi a)), (3, .int (zi b)), (4, .int (zi d)), (5, .int (zi v))] := hl
  refine lv_aload_n hx hb d_S_widened_0 rfl (lv_at hl 0 rfl) ?_
  refine lv_iload_n hx hb d_S_widened_1 rfl (lv_at hl 2 rfl) ?_
  refine lv_iload_n hx hb d_S_widened_2 rfl (lv_at hl 3 rfl) ?_
  refine lv_iload hx hb d_S_widened_3 (lv_at hl 4 rfl) ?_
  refine zc_n (va_runV (As := [.int (zi a), .int (zi b), .int (zi d)]) (rest := []) ⟨hx, hb, hml, hown, hts⟩ (k_S_crossAt l dC dI ad cI S k0 k1 k2 k3 hI a b d (zB.w hb_a (by decide) (by decide)) (zB.w hb_b (by decide) (by decide)) (zB.w hb_d (by decide) (by decide)) ) (zcV 3 hts m_128 m_1 m_126 m_127 m_379 rfl rfl q_S_crossAt ⟨Nat.le_of_ble_eq_true rfl, Nat.le_of_ble_eq_true rfl⟩) (zpS0 hP hK hN [.int (zi a), .int (zi b), .int (zi d)]) rfl rfl hl.1 rfl (lv_room (Nat.le_of_ble_eq_true rfl)) d_S_widened_5 ⟨Nat.zero_le _, Nat.zero_le _⟩) ?_
  have b_1 : zB (-1800000000) 1800000000 (f_S_crossAt S a b d) := br_S_crossAt S a b d hI (zB.w hb_a (by decide) (by decide)) (zB.w hb_b (by decide) (by decide)) (zB.w hb_d (by decide) (by decide)) 
  refine lv_lstore (lv' := [(6, .long (zl (f_S_crossAt S a b d))), (0, .ref (ad 0)), (1, .int (zi w)), (2, .int (zi a)), (3, .int (zi b)), (4, .int (zi d)), (5, .int (zi v))]) hx hb d_S_widened_8 hl (by decide) rfl (fun ls hl => ?_)
  refine lv_lload hx hb d_S_widened_10 (lv_at hl 0 rfl) ?_
  refine lv_lconst (v := zl 0) hx hb d_S_widened_12 (by decide) ?_
  refine zr_lcmp_eq (tgt := 27) hx hb (zB.L b_1 (by decide) (by decide)) (zB.L (zb_c 0) (by decide) (by decide)) d_S_widened_13 d_S_widened_14 (by decide) (fun c_2 => ?_) (fun c_2 => ?_)
  · replace hq := (if_pos c_2).symm.trans hq
    have r_3 : zB 0 0 (f_S_crossAt S a b d) := ⟨(Int.le_of_eq c_2.symm), (Int.le_of_eq c_2)⟩
    refine lv_iload_n hx hb d_S_widened_27 rfl (lv_at hl 2 rfl) ?_
    exact ze_i hx hb hr hlocks hq d_S_widened_28
  · replace hq := (if_neg c_2).symm.trans hq
    refine lv_lload hx hb d_S_widened_17 (lv_at hl 0 rfl) ?_
    refine zc_n (va_runS (As := [.long (zl (f_S_crossAt S a b d))]) (rest := []) ⟨hx, hb, hml, hown, hts⟩ (k_S_sideOf l (f_S_crossAt S a b d) (zB.w b_1 (by decide) (by decide)) ) (zcS 1 hts m_131 m_1 m_129 m_130 rfl rfl q_S_sideOf ⟨Nat.le_of_ble_eq_true rfl, Nat.le_of_ble_eq_true rfl⟩) (zp0 [.long (zl (f_S_crossAt S a b d))]) rfl rfl hl.1 rfl (lv_room (Nat.le_of_ble_eq_true rfl)) d_S_widened_19 ⟨Nat.zero_le _, Nat.zero_le _⟩) ?_
    have b_4 : zB 0 1 (f_S_sideOf (f_S_crossAt S a b d)) := br_S_sideOf (f_S_crossAt S a b d) (zB.w b_1 (by decide) (by decide)) 
    obtain ⟨hl_b_4, hh_b_4⟩ := id b_4
    refine lv_iload hx hb d_S_widened_22 (lv_at hl 6 rfl) ?_
    refine zr_icmp_eq (tgt := 29) hx hb (zB.I b_4 (by decide) (by decide)) (zB.I hb_v (by decide) (by decide)) d_S_widened_24 (by decide) (fun c_5 => ?_) (fun c_5 => ?_)
    · replace hq := (if_pos c_5).symm.trans hq
      refine lv_aload_n hx hb d_S_widened_29 rfl (lv_at hl 1 rfl) ?_
      refine lv_iload_n hx hb d_S_widened_30 rfl (lv_at hl 3 rfl) ?_
      refine lv_iload_n hx hb d_S_widened_31 rfl (lv_at hl 4 rfl) ?_
      refine zc_n (va_runV (As := [.int (zi a), .int (zi b)]) (rest := []) ⟨hx, hb, hml, hown, hts⟩ (k_S_squareBetween l dC dI ad cI S k0 k1 k2 k3 hI a b (zB.w hb_a (by decide) (by decide)) (zB.w hb_b (by decide) (by decide)) ) (zcV 2 hts m_64 m_1 m_62 m_63 m_373 rfl rfl q_S_squareBetween ⟨Nat.le_of_ble_eq_true rfl, Nat.le_of_ble_eq_true rfl⟩) (zpS0 hP hK hN [.int (zi a), .int (zi b)]) rfl rfl hl.1 rfl (lv_room (Nat.le_of_ble_eq_true rfl)) d_S_widened_32 ⟨Nat.zero_le _, Nat.zero_le _⟩) ?_
      have b_6 : zB 0 1800000000 (f_S_squareBetween S a b) := br_S_squareBetween S a b hI (zB.w hb_a (by decide) (by decide)) (zB.w hb_b (by decide) (by decide)) 
      refine lv_lstore (lv' := [(8, .long (zl (f_S_squareBetween S a b))), (6, .long (zl (f_S_crossAt S a b d))), (0, .ref (ad 0)), (1, .int (zi w)), (2, .int (zi a)), (3, .int (zi b)), (4, .int (zi d)), (5, .int (zi v))]) hx hb d_S_widened_35 hl (by decide) rfl (fun ls hl => ?_)
      refine lv_iload_n hx hb d_S_widened_37 rfl (lv_at hl 3 rfl) ?_
      refine lv_istore (lv' := [(10, .int (zi w)), (8, .long (zl (f_S_squareBetween S a b))), (6, .long (zl (f_S_crossAt S a b d))), (0, .ref (ad 0)), (1, .int (zi w)), (2, .int (zi a)), (3, .int (zi b)), (4, .int (zi d)), (5, .int (zi v))]) hx hb d_S_widened_38 hl (by decide) rfl (fun ls hl => ?_)
      have L_l : ∀ (z : Int → Int), (∀ (t : Int), zB 0 1001 t → ∀ (ls : Array Slot), z t = r → lv_has ls 11 [(0, .ref (ad 0)), (1, .int (zi w)), (2, .int (zi a)), (3, .int (zi b)), (4, .int (zi d)), (5, .int (zi v)), (6, .long (zl (f_S_crossAt S a b d))), (8, .long (zl (f_S_squareBetween S a b))), (10, .int (zi t))] → W p l e { frames := 2, cells := 0, slots := 0, locals := 45 } s m ([.ref (ad 0), .int (zi w), .int (zi a), .int (zi b), .int (zi d), .int (zi v)] : List Value).toArray below meth c s.heap [] 0 0 (MQ below (zR (.int (zi r))) ([.ref (ad 0), .int (zi w), .int (zi a), .int (zi b), .int (zi d), .int (zi v)] : List Value).toArray s 0 0 (fun _ => False)) (F0 m 67 ls [])) → ∀ (k : Nat) (t : Int) (ls : Array Slot), zB 0 1001 t → 1002 - t < (k : Int) → f_S_widened_l S w a b d v z k t = r → lv_has ls 11 [(0, .ref (ad 0)), (1, .int (zi w)), (2, .int (zi a)), (3, .int (zi b)), (4, .int (zi d)), (5, .int (zi v)), (6, .long (zl (f_S_crossAt S a b d))), (8, .long (zl (f_S_squareBetween S a b))), (10, .int (zi t))] → W p l e { frames := 2, cells := 0, slots := 0, locals := 45 } s m ([.ref (ad 0), .int (zi w), .int (zi a), .int (zi b), .int (zi d), .int (zi v)] : List Value).toArray below meth c s.heap [] 0 0 (MQ below (zR (.int (zi r))) ([.ref (ad 0), .int (zi w), .int (zi a), .int (zi b), .int (zi d), .int (zi v)] : List Value).toArray s 0 0 (fun _ => False)) (F0 m 40 ls []) := by
        intro z hz k
        induction k with
        | zero =>
          intro t ls hb_t  hk hq hl
          exact absurd hk (by have := hb_t.1; have := hb_t.2; omega)
        | succ k ih =>
          intro t ls hb_t  hk hq hl
          obtain ⟨hl_t, hh_t⟩ := id hb_t
          replace hq := (f_S_widened_l_s S w a b d v z k t).symm.trans hq
          refine lv_iload hx hb d_S_widened_40 (lv_at hl 8 rfl) ?_
          refine lv_sipush (v := zi 1000) hx hb d_S_widened_42 (by decide) ?_
          refine zr_icmp_gt (tgt := 67) hx hb (zB.I hb_t (by decide) (by decide)) (zB.I (zb_c 1000) (by decide) (by decide)) d_S_widened_45 (by decide) (fun c_7 => ?_) (fun c_7 => ?_)
          · replace hq := (if_pos c_7).symm.trans hq
            have r_8 : zB 1001 1001 t := ⟨(Int.add_one_le_of_lt c_7), hb_t.2⟩
            exact hz t (zB.w r_8 (by decide) (by decide)) ls hq (lv_sub hl [0, 1, 2, 3, 4, 5, 6, 7, 8] rfl)
          · replace hq := (if_neg c_7).symm.trans hq
            have r_9 : zB 0 1000 t := ⟨hb_t.1, (Int.not_lt.mp c_7)⟩
            refine lv_lload hx hb d_S_widened_48 (lv_at hl 6 rfl) ?_
            refine lv_lload hx hb d_S_widened_50 (lv_at hl 7 rfl) ?_
            refine lv_iload hx hb d_S_widened_52 (lv_at hl 8 rfl) ?_
            refine zr_i2l hx hb (zB.I r_9 (by decide) (by decide)) d_S_widened_54 ?_
            refine zc_n (va_runS (As := [.long (zl (f_S_crossAt S a b d)), .long (zl (f_S_squareBetween S a b)), .long (zl t)]) (rest := []) ⟨hx, hb, hml, hown, hts⟩ (k_S_isFarther l (f_S_crossAt S a b d) (f_S_squareBetween S a b) t (zB.w b_1 (by decide) (by decide)) (zB.w b_6 (by decide) (by decide)) (zB.w r_9 (by decide) (by decide)) ) (zcS 3 hts m_134 m_1 m_132 m_133 rfl rfl q_S_isFarther ⟨Nat.le_of_ble_eq_true rfl, Nat.le_of_ble_eq_true rfl⟩) (zp0 [.long (zl (f_S_crossAt S a b d)), .long (zl (f_S_squareBetween S a b)), .long (zl t)]) rfl rfl hl.1 rfl (lv_room (Nat.le_of_ble_eq_true rfl)) d_S_widened_55 ⟨Nat.zero_le _, Nat.zero_le _⟩) ?_
            refine zr_if_eq (tgt := 67) hx hb (zB.I (bb_S_isFarther (f_S_crossAt S a b d) (f_S_squareBetween S a b) t) (by decide) (by decide)) d_S_widened_58 (by decide) (fun c_10 => ?_) (fun c_10 => ?_)
            · replace hq := (if_pos c_10).symm.trans hq
              have r_11 : zB 0 0 (f_S_isFarther (f_S_crossAt S a b d) (f_S_squareBetween S a b) t) := ⟨(Int.le_of_eq c_10.symm), (Int.le_of_eq c_10)⟩
              exact hz t (zB.w r_9 (by decide) (by decide)) ls hq (lv_sub hl [0, 1, 2, 3, 4, 5, 6, 7, 8] rfl)
            · replace hq := (if_neg c_10).symm.trans hq
              have r_12 : zB 1 1 (f_S_isFarther (f_S_crossAt S a b d) (f_S_squareBetween S a b) t) := ⟨(by have := (bb_S_isFarther (f_S_crossAt S a b d) (f_S_squareBetween S a b) t).1; omega), (bb_S_isFarther (f_S_crossAt S a b d) (f_S_squareBetween S a b) t).2⟩
              have b_13 : zB 1 1001 (t + 1) := zB.w (zb_add r_9 (zb_c 1)) (by decide) (by decide)
              refine lv_iinc (v := zi (t + 1)) (lv' := [(10, .int (zi (t + 1))), (0, .ref (ad 0)), (1, .int (zi w)), (2, .int (zi a)), (3, .int (zi b)), (4, .int (zi d)), (5, .int (zi v)), (6, .long (zl (f_S_crossAt S a b d))), (8, .long (zl (f_S_squareBetween S a b)))]) hx hb d_S_widened_61 hl (k := 8) rfl (zi_add _ _) (by decide) rfl (fun ls hl => ?_)
              refine lv_goto (tgt := 40) hx hb d_S_widened_64 (by decide) ?_
              exact ih (t + 1) ls (zB.w b_13 (by decide) (by decide))  (by omega) hq (lv_sub hl [1, 2, 3, 4, 5, 6, 7, 8, 0] rfl)
      refine L_l _ (fun t hb_t ls hq hl => ?_) 1003 w ls (zB.w hb_w (by decide) (by decide))  (by omega) hq (lv_sub hl [3, 4, 5, 6, 7, 8, 2, 1, 0] rfl)
      obtain ⟨hl_t, hh_t⟩ := id hb_t
      refine lv_iload hx hb d_S_widened_67 (lv_at hl 8 rfl) ?_
      exact ze_i hx hb hr hlocks hq d_S_widened_69
    · replace hq := (if_neg c_5).symm.trans hq
      refine lv_iload_n hx hb d_S_widened_27 rfl (lv_at hl 2 rfl) ?_
      exact ze_i hx hb hr hlocks hq d_S_widened_28
def f_S_slopeBeyond (S : Nat → Int → Int) (a v : Int) : Int := if v = 0 then (if (f_S_isStation S (a + 1)) = 0 then (0) else (if (zabs ((S 3 (a + 1)) - (S 3 a))) = 0 then (0) else (Int.tdiv (981 * ((S 2 (a + 1)) - (S 2 a))) (10 * (zabs ((S 3 (a + 1)) - (S 3 a))))))) else (if (f_S_isStation S (a - 1)) = 0 then (0) else (if (zabs ((S 3 (a - 1)) - (S 3 a))) = 0 then (0) else (Int.tdiv (981 * ((S 2 (a - 1)) - (S 2 a))) (10 * (zabs ((S 3 (a - 1)) - (S 3 a)))))))
theorem br_S_slopeBeyond (S : Nat → Int → Int) (a v : Int) (hI : iS S) (_ : zB 0 59 a) (_ : zB 0 1 v) : zB (-196200000) 196200000 (f_S_slopeBeyond S a v) := by
  have key : ∀ i j x : Int, zB (-196200000) 196200000 (Int.tdiv (981 * (S 2 i - S 2 j)) x) := fun i j x => zb_tdiv (zB.w (zb_mul (A := 981) (B := 200000) ⟨by decide, by decide⟩ (zB.w (zb_sub (iS_a2 hI i) (iS_a2 hI j)) (by decide) (by decide))) (by decide) (by decide))
  unfold f_S_slopeBeyond
  repeat' split
  all_goals first | exact ⟨by decide, by decide⟩ | exact key _ _ _
set_option maxHeartbeats 4000000 in
set_option maxRecDepth 100000 in
theorem k_S_slopeBeyond (l : Launch) (dC : Nat → ClassId) (dI : Nat → Nat → Nat) (ad : Nat → Nat) (cI : ClassId) (S : Nat → Int → Int) (k0 k1 k2 k3 : Int) (hI : iS S) (a v : Int) (hb_a : zB 0 59 a) (hb_v : zB 0 1 v) : Met l y_S_slopeBeyond (Cond.code y_S_slopeBeyond c_S_slopeBeyond 6 (some .long) :: zT) { frames := 1, cells := 0, slots := 0, locals := 21 } (va_Pc ([.ref (ad 0), .int (zi a), .int (zi v)] : List Value) (zWS dC dI ad cI S k0 k1 k2 k3)) (zR (.long (zl (f_S_slopeBeyond S a v)))) 0 0 (fun _ => False) := by
  refine zh (cc := c_S_slopeBeyond) (C := R_S) (by decide) rfl rfl (Nat.le_of_ble_eq_true rfl) ?_
  intro p e s m below meth c ls hx hb hr hlocks hml hown hname hts hl hB
  have hw : ∀ w9 ∈ zT, w9.before ([.ref (ad 0), .int (zi a), .int (zi v)] : List Value).toArray s = true := fun w9 h => hts w9 (List.mem_cons_of_mem _ h)
  obtain ⟨hP, hK, hN⟩ := hB
  obtain ⟨hn0, hn1⟩ := id (iS_s0 hI)
  obtain ⟨hz0, hz1⟩ := id (iS_s6 hI)
  obtain ⟨hl_a, hh_a⟩ := id hb_a
  obtain ⟨hl_v, hh_v⟩ := id hb_v
  generalize hq : f_S_slopeBeyond S a v = r
  unfold f_S_slopeBeyond at hq
  replace hl : lv_has ls 6 [(0, .ref (ad 0)), (1, .int (zi a)), (2, .int (zi v))] := hl
  refine lv_iload_n hx hb d_S_slopeBeyond_0 rfl (lv_at hl 2 rfl) ?_
  refine zr_if_eq (tgt := 10) hx hb (zB.I hb_v (by decide) (by decide)) d_S_slopeBeyond_1 (by decide) (fun c_1 => ?_) (fun c_1 => ?_)
  · replace hq := (if_pos c_1).symm.trans hq
    have r_2 : zB 0 0 v := ⟨(Int.le_of_eq c_1.symm), (Int.le_of_eq c_1)⟩
    refine lv_iload_n hx hb d_S_slopeBeyond_10 rfl (lv_at hl 1 rfl) ?_
    refine lv_iconst (v := zi 1) hx hb d_S_slopeBeyond_11 rfl ?_
    have b_3 : zB 1 60 (a + 1) := zB.w (zb_add hb_a (zb_c 1)) (by decide) (by decide)
    refine zr_iadd hx hb d_S_slopeBeyond_12 ?_
    refine lv_istore_n (lv' := [(3, .int (zi (a + 1))), (0, .ref (ad 0)), (1, .int (zi a)), (2, .int (zi v))]) hx hb d_S_slopeBeyond_13 rfl hl (by decide) rfl (fun ls hl => ?_)
    refine lv_aload_n hx hb d_S_slopeBeyond_14 rfl (lv_at hl 1 rfl) ?_
    refine lv_iload_n hx hb d_S_slopeBeyond_15 rfl (lv_at hl 0 rfl) ?_
    refine zc_n (va_runV (As := [.int (zi (a + 1))]) (rest := []) ⟨hx, hb, hml, hown, hts⟩ (k_S_isStation l dC dI ad cI S k0 k1 k2 k3 hI (a + 1) (zB.w b_3 (by decide) (by decide)) ) (zcV 1 hts m_84 m_1 m_82 m_83 m_374 rfl rfl q_S_isStation ⟨Nat.le_of_ble_eq_true rfl, Nat.le_of_ble_eq_true rfl⟩) (zpS0 hP hK hN [.int (zi (a + 1))]) rfl rfl hl.1 rfl (lv_room (Nat.le_of_ble_eq_true rfl)) d_S_slopeBeyond_16 ⟨Nat.zero_le _, Nat.zero_le _⟩) ?_
    refine zr_if_ne (tgt := 24) hx hb (zB.I (bb_S_isStation S (a + 1)) (by decide) (by decide)) d_S_slopeBeyond_19 (by decide) (fun c_4 => ?_) (fun c_4 => ?_)
    · replace hq := (if_neg c_4).symm.trans hq
      have r_5 : zB 1 1 (f_S_isStation S (a + 1)) := ⟨(by have := (bb_S_isStation S (a + 1)).1; omega), (bb_S_isStation S (a + 1)).2⟩
      have g_6 := gf_S_isStation hI c_4
      obtain ⟨g_6l, g_6h⟩ := id g_6.1
      have g_6n := g_6.2
      refine lv_aload_n hx hb d_S_slopeBeyond_24 rfl (lv_at hl 1 rfl) ?_
      refine va_get (D := (dC, dI)) (ci := 1) (v := .ref (ad 4)) (C := R_S) (T := T_S) (N := 13) hx hb hw i_S hown hK hP 0 rfl rfl 3 (by decide) (hw _ m_34) (fun _ h9 => h9) rfl d_S_slopeBeyond_25 ?_
      refine lv_iload_n hx hb d_S_slopeBeyond_28 rfl (lv_at hl 0 rfl) ?_
      refine zr_iald hx hb hK hP 4 0 (cA := cI) (n := 60) (g := S 3) rfl rfl (i := a + 1) (by omega) (by omega) (by decide) d_S_slopeBeyond_29 ?_
      refine lv_aload_n hx hb d_S_slopeBeyond_30 rfl (lv_at hl 1 rfl) ?_
      refine va_get (D := (dC, dI)) (ci := 1) (v := .ref (ad 4)) (C := R_S) (T := T_S) (N := 13) hx hb hw i_S hown hK hP 0 rfl rfl 3 (by decide) (hw _ m_34) (fun _ h9 => h9) rfl d_S_slopeBeyond_31 ?_
      refine lv_iload_n hx hb d_S_slopeBeyond_34 rfl (lv_at hl 2 rfl) ?_
      refine zr_iald hx hb hK hP 4 0 (cA := cI) (n := 60) (g := S 3) rfl rfl (i := a) (by omega) (by omega) (by decide) d_S_slopeBeyond_35 ?_
      have b_7 : zB (-2545620) 2545620 ((S 3 (a + 1)) - (S 3 a)) := zB.w (zb_sub (iS_a3 hI (a + 1)) (iS_a3 hI a)) (by decide) (by decide)
      refine zr_isub hx hb d_S_slopeBeyond_36 ?_
      refine zr_abs hx hb (hml.trans hl.1.symm) hown (hw _ m_120) (hw _ m_121) (hw _ m_4) (hw _ m_122) (Nat.le_of_ble_eq_true rfl) (Nat.le_of_ble_eq_true rfl) (Nat.zero_le _) (Nat.zero_le _) (zB.I b_7 (by decide) (by decide)) d_S_slopeBeyond_37 ?_
      have b_8 : zB 0 2545620 (zabs ((S 3 (a + 1)) - (S 3 a))) := zB.w (zb_zabs (A := 2545620) (zB.w b_7 (by decide) (by decide))) (by decide) (by decide)
      obtain ⟨hl_b_8, hh_b_8⟩ := id b_8
      refine zr_i2l hx hb (zB.I b_8 (by decide) (by decide)) d_S_slopeBeyond_40 ?_
      refine lv_lstore (lv' := [(4, .long (zl (zabs ((S 3 (a + 1)) - (S 3 a))))), (3, .int (zi (a + 1))), (0, .ref (ad 0)), (1, .int (zi a)), (2, .int (zi v))]) hx hb d_S_slopeBeyond_41 hl (by decide) rfl (fun ls hl => ?_)
      refine lv_lload hx hb d_S_slopeBeyond_43 (lv_at hl 0 rfl) ?_
      refine lv_lconst (v := zl 0) hx hb d_S_slopeBeyond_45 (by decide) ?_
      refine zr_lcmp_ne (tgt := 54) hx hb (zB.L b_8 (by decide) (by decide)) (zB.L (zb_c 0) (by decide) (by decide)) d_S_slopeBeyond_46 d_S_slopeBeyond_47 (by decide) (fun c_9 => ?_) (fun c_9 => ?_)
      · replace hq := (if_neg c_9).symm.trans hq
        have r_10 : zB 1 2545620 (zabs ((S 3 (a + 1)) - (S 3 a))) := ⟨(by have := b_8.1; omega), b_8.2⟩
        refine lv_ldc2 (v := zl 981) hx hb hown (hw _ m_168) d_S_slopeBeyond_54 ?_
        refine lv_aload_n hx hb d_S_slopeBeyond_57 rfl (lv_at hl 2 rfl) ?_
        refine va_get (D := (dC, dI)) (ci := 1) (v := .ref (ad 3)) (C := R_S) (T := T_S) (N := 13) hx hb hw i_S hown hK hP 0 rfl rfl 2 (by decide) (hw _ m_33) (fun _ h9 => h9) rfl d_S_slopeBeyond_58 ?_
        refine lv_iload_n hx hb d_S_slopeBeyond_61 rfl (lv_at hl 1 rfl) ?_
        refine zr_iald hx hb hK hP 3 0 (cA := cI) (n := 60) (g := S 2) rfl rfl (i := a + 1) (by omega) (by omega) (by decide) d_S_slopeBeyond_62 ?_
        refine lv_aload_n hx hb d_S_slopeBeyond_63 rfl (lv_at hl 2 rfl) ?_
        refine va_get (D := (dC, dI)) (ci := 1) (v := .ref (ad 3)) (C := R_S) (T := T_S) (N := 13) hx hb hw i_S hown hK hP 0 rfl rfl 2 (by decide) (hw _ m_33) (fun _ h9 => h9) rfl d_S_slopeBeyond_64 ?_
        refine lv_iload_n hx hb d_S_slopeBeyond_67 rfl (lv_at hl 3 rfl) ?_
        refine zr_iald hx hb hK hP 3 0 (cA := cI) (n := 60) (g := S 2) rfl rfl (i := a) (by omega) (by omega) (by decide) d_S_slopeBeyond_68 ?_
        have b_11 : zB (-200000) 200000 ((S 2 (a + 1)) - (S 2 a)) := zB.w (zb_sub (iS_a2 hI (a + 1)) (iS_a2 hI a)) (by decide) (by decide)
        refine zr_isub hx hb d_S_slopeBeyond_69 ?_
        refine zr_i2l hx hb (zB.I b_11 (by decide) (by decide)) d_S_slopeBeyond_70 ?_
        have b_12 : zB (-196200000) 196200000 (981 * ((S 2 (a + 1)) - (S 2 a))) := zB.w (zb_mul (A := 981) (B := 200000) (zB.w (zb_c 981) (by decide) (by decide)) (zB.w b_11 (by decide) (by decide))) (by decide) (by decide)
        refine zr_lmul hx hb d_S_slopeBeyond_71 ?_
        refine lv_ldc2 (v := zl 10) hx hb hown (hw _ m_162) d_S_slopeBeyond_72 ?_
        refine lv_lload hx hb d_S_slopeBeyond_75 (lv_at hl 0 rfl) ?_
        have b_13 : zB 10 25456200 (10 * (zabs ((S 3 (a + 1)) - (S 3 a)))) := zB.w (zb_mulq (zb_c 10) r_10 (by decide) (by decide)) (by decide) (by decide)
        refine zr_lmul hx hb d_S_slopeBeyond_77 ?_
        refine zr_ldiv hx hb (zB.L b_12 (by decide) (by decide)) (zB.L b_13 (by decide) (by decide)) (Int.lt_of_lt_of_le (by decide) b_13.1) d_S_slopeBeyond_78 ?_
        have b_14 : zB (-196200000) 196200000 (Int.tdiv (981 * ((S 2 (a + 1)) - (S 2 a))) (10 * (zabs ((S 3 (a + 1)) - (S 3 a))))) := zB.w (zb_tdiv (A := 196200000) (b := (10 * (zabs ((S 3 (a + 1)) - (S 3 a))))) (zB.w b_12 (by decide) (by decide))) (by decide) (by decide)
        exact ze_l hx hb hr hlocks hq d_S_slopeBeyond_79
      · replace hq := (if_pos c_9).symm.trans hq
        have r_15 : zB 0 0 (zabs ((S 3 (a + 1)) - (S 3 a))) := ⟨(Int.le_of_eq c_9.symm), (Int.le_of_eq c_9)⟩
        refine lv_lconst (v := zl 0) hx hb d_S_slopeBeyond_50 (by decide) ?_
        refine lv_goto (tgt := 79) hx hb d_S_slopeBeyond_51 (by decide) ?_
        exact ze_l hx hb hr hlocks hq d_S_slopeBeyond_79
    · replace hq := (if_pos c_4).symm.trans hq
      have r_16 : zB 0 0 (f_S_isStation S (a + 1)) := ⟨(Int.le_of_eq c_4.symm), (Int.le_of_eq c_4)⟩
      refine lv_lconst (v := zl 0) hx hb d_S_slopeBeyond_22 (by decide) ?_
      exact ze_l hx hb hr hlocks hq d_S_slopeBeyond_23
  · replace hq := (if_neg c_1).symm.trans hq
    have r_17 : zB 1 1 v := ⟨(by have := hb_v.1; omega), hb_v.2⟩
    refine lv_iload_n hx hb d_S_slopeBeyond_4 rfl (lv_at hl 1 rfl) ?_
    refine lv_iconst (v := zi 1) hx hb d_S_slopeBeyond_5 rfl ?_
    have b_18 : zB (-1) 58 (a - 1) := zB.w (zb_sub hb_a (zb_c 1)) (by decide) (by decide)
    refine zr_isub hx hb d_S_slopeBeyond_6 ?_
    refine lv_goto (tgt := 13) hx hb d_S_slopeBeyond_7 (by decide) ?_
    refine lv_istore_n (lv' := [(3, .int (zi (a - 1))), (0, .ref (ad 0)), (1, .int (zi a)), (2, .int (zi v))]) hx hb d_S_slopeBeyond_13 rfl hl (by decide) rfl (fun ls hl => ?_)
    refine lv_aload_n hx hb d_S_slopeBeyond_14 rfl (lv_at hl 1 rfl) ?_
    refine lv_iload_n hx hb d_S_slopeBeyond_15 rfl (lv_at hl 0 rfl) ?_
    refine zc_n (va_runV (As := [.int (zi (a - 1))]) (rest := []) ⟨hx, hb, hml, hown, hts⟩ (k_S_isStation l dC dI ad cI S k0 k1 k2 k3 hI (a - 1) (zB.w b_18 (by decide) (by decide)) ) (zcV 1 hts m_84 m_1 m_82 m_83 m_374 rfl rfl q_S_isStation ⟨Nat.le_of_ble_eq_true rfl, Nat.le_of_ble_eq_true rfl⟩) (zpS0 hP hK hN [.int (zi (a - 1))]) rfl rfl hl.1 rfl (lv_room (Nat.le_of_ble_eq_true rfl)) d_S_slopeBeyond_16 ⟨Nat.zero_le _, Nat.zero_le _⟩) ?_
    refine zr_if_ne (tgt := 24) hx hb (zB.I (bb_S_isStation S (a - 1)) (by decide) (by decide)) d_S_slopeBeyond_19 (by decide) (fun c_19 => ?_) (fun c_19 => ?_)
    · replace hq := (if_neg c_19).symm.trans hq
      have r_20 : zB 1 1 (f_S_isStation S (a - 1)) := ⟨(by have := (bb_S_isStation S (a - 1)).1; omega), (bb_S_isStation S (a - 1)).2⟩
      have g_21 := gf_S_isStation hI c_19
      obtain ⟨g_21l, g_21h⟩ := id g_21.1
      have g_21n := g_21.2
      refine lv_aload_n hx hb d_S_slopeBeyond_24 rfl (lv_at hl 1 rfl) ?_
      refine va_get (D := (dC, dI)) (ci := 1) (v := .ref (ad 4)) (C := R_S) (T := T_S) (N := 13) hx hb hw i_S hown hK hP 0 rfl rfl 3 (by decide) (hw _ m_34) (fun _ h9 => h9) rfl d_S_slopeBeyond_25 ?_
      refine lv_iload_n hx hb d_S_slopeBeyond_28 rfl (lv_at hl 0 rfl) ?_
      refine zr_iald hx hb hK hP 4 0 (cA := cI) (n := 60) (g := S 3) rfl rfl (i := a - 1) (by omega) (by omega) (by decide) d_S_slopeBeyond_29 ?_
      refine lv_aload_n hx hb d_S_slopeBeyond_30 rfl (lv_at hl 1 rfl) ?_
      refine va_get (D := (dC, dI)) (ci := 1) (v := .ref (ad 4)) (C := R_S) (T := T_S) (N := 13) hx hb hw i_S hown hK hP 0 rfl rfl 3 (by decide) (hw _ m_34) (fun _ h9 => h9) rfl d_S_slopeBeyond_31 ?_
      refine lv_iload_n hx hb d_S_slopeBeyond_34 rfl (lv_at hl 2 rfl) ?_
      refine zr_iald hx hb hK hP 4 0 (cA := cI) (n := 60) (g := S 3) rfl rfl (i := a) (by omega) (by omega) (by decide) d_S_slopeBeyond_35 ?_
      have b_22 : zB (-2545620) 2545620 ((S 3 (a - 1)) - (S 3 a)) := zB.w (zb_sub (iS_a3 hI (a - 1)) (iS_a3 hI a)) (by decide) (by decide)
      refine zr_isub hx hb d_S_slopeBeyond_36 ?_
      refine zr_abs hx hb (hml.trans hl.1.symm) hown (hw _ m_120) (hw _ m_121) (hw _ m_4) (hw _ m_122) (Nat.le_of_ble_eq_true rfl) (Nat.le_of_ble_eq_true rfl) (Nat.zero_le _) (Nat.zero_le _) (zB.I b_22 (by decide) (by decide)) d_S_slopeBeyond_37 ?_
      have b_23 : zB 0 2545620 (zabs ((S 3 (a - 1)) - (S 3 a))) := zB.w (zb_zabs (A := 2545620) (zB.w b_22 (by decide) (by decide))) (by decide) (by decide)
      obtain ⟨hl_b_23, hh_b_23⟩ := id b_23
      refine zr_i2l hx hb (zB.I b_23 (by decide) (by decide)) d_S_slopeBeyond_40 ?_
      refine lv_lstore (lv' := [(4, .long (zl (zabs ((S 3 (a - 1)) - (S 3 a))))), (3, .int (zi (a - 1))), (0, .ref (ad 0)), (1, .int (zi a)), (2, .int (zi v))]) hx hb d_S_slopeBeyond_41 hl (by decide) rfl (fun ls hl => ?_)
      refine lv_lload hx hb d_S_slopeBeyond_43 (lv_at hl 0 rfl) ?_
      refine lv_lconst (v := zl 0) hx hb d_S_slopeBeyond_45 (by decide) ?_
      refine zr_lcmp_ne (tgt := 54) hx hb (zB.L b_23 (by decide) (by decide)) (zB.L (zb_c 0) (by decide) (by decide)) d_S_slopeBeyond_46 d_S_slopeBeyond_47 (by decide) (fun c_24 => ?_) (fun c_24 => ?_)
      · replace hq := (if_neg c_24).symm.trans hq
        have r_25 : zB 1 2545620 (zabs ((S 3 (a - 1)) - (S 3 a))) := ⟨(by have := b_23.1; omega), b_23.2⟩
        refine lv_ldc2 (v := zl 981) hx hb hown (hw _ m_168) d_S_slopeBeyond_54 ?_
        refine lv_aload_n hx hb d_S_slopeBeyond_57 rfl (lv_at hl 2 rfl) ?_
        refine va_get (D := (dC, dI)) (ci := 1) (v := .ref (ad 3)) (C := R_S) (T := T_S) (N := 13) hx hb hw i_S hown hK hP 0 rfl rfl 2 (by decide) (hw _ m_33) (fun _ h9 => h9) rfl d_S_slopeBeyond_58 ?_
        refine lv_iload_n hx hb d_S_slopeBeyond_61 rfl (lv_at hl 1 rfl) ?_
        refine zr_iald hx hb hK hP 3 0 (cA := cI) (n := 60) (g := S 2) rfl rfl (i := a - 1) (by omega) (by omega) (by decide) d_S_slopeBeyond_62 ?_
        refine lv_aload_n hx hb d_S_slopeBeyond_63 rfl (lv_at hl 2 rfl) ?_
        refine va_get (D := (dC, dI)) (ci := 1) (v := .ref (ad 3)) (C := R_S) (T := T_S) (N := 13) hx hb hw i_S hown hK hP 0 rfl rfl 2 (by decide) (hw _ m_33) (fun _ h9 => h9) rfl d_S_slopeBeyond_64 ?_
        refine lv_iload_n hx hb d_S_slopeBeyond_67 rfl (lv_at hl 3 rfl) ?_
        refine zr_iald hx hb hK hP 3 0 (cA := cI) (n := 60) (g := S 2) rfl rfl (i := a) (by omega) (by omega) (by decide) d_S_slopeBeyond_68 ?_
        have b_26 : zB (-200000) 200000 ((S 2 (a - 1)) - (S 2 a)) := zB.w (zb_sub (iS_a2 hI (a - 1)) (iS_a2 hI a)) (by decide) (by decide)
        refine zr_isub hx hb d_S_slopeBeyond_69 ?_
        refine zr_i2l hx hb (zB.I b_26 (by decide) (by decide)) d_S_slopeBeyond_70 ?_
        have b_27 : zB (-196200000) 196200000 (981 * ((S 2 (a - 1)) - (S 2 a))) := zB.w (zb_mul (A := 981) (B := 200000) (zB.w (zb_c 981) (by decide) (by decide)) (zB.w b_26 (by decide) (by decide))) (by decide) (by decide)
        refine zr_lmul hx hb d_S_slopeBeyond_71 ?_
        refine lv_ldc2 (v := zl 10) hx hb hown (hw _ m_162) d_S_slopeBeyond_72 ?_
        refine lv_lload hx hb d_S_slopeBeyond_75 (lv_at hl 0 rfl) ?_
        have b_28 : zB 10 25456200 (10 * (zabs ((S 3 (a - 1)) - (S 3 a)))) := zB.w (zb_mulq (zb_c 10) r_25 (by decide) (by decide)) (by decide) (by decide)
        refine zr_lmul hx hb d_S_slopeBeyond_77 ?_
        refine zr_ldiv hx hb (zB.L b_27 (by decide) (by decide)) (zB.L b_28 (by decide) (by decide)) (Int.lt_of_lt_of_le (by decide) b_28.1) d_S_slopeBeyond_78 ?_
        have b_29 : zB (-196200000) 196200000 (Int.tdiv (981 * ((S 2 (a - 1)) - (S 2 a))) (10 * (zabs ((S 3 (a - 1)) - (S 3 a))))) := zB.w (zb_tdiv (A := 196200000) (b := (10 * (zabs ((S 3 (a - 1)) - (S 3 a))))) (zB.w b_27 (by decide) (by decide))) (by decide) (by decide)
        exact ze_l hx hb hr hlocks hq d_S_slopeBeyond_79
      · replace hq := (if_pos c_24).symm.trans hq
        have r_30 : zB 0 0 (zabs ((S 3 (a - 1)) - (S 3 a))) := ⟨(Int.le_of_eq c_24.symm), (Int.le_of_eq c_24)⟩
        refine lv_lconst (v := zl 0) hx hb d_S_slopeBeyond_50 (by decide) ?_
        refine lv_goto (tgt := 79) hx hb d_S_slopeBeyond_51 (by decide) ?_
        exact ze_l hx hb hr hlocks hq d_S_slopeBeyond_79
    · replace hq := (if_pos c_19).symm.trans hq
      have r_31 : zB 0 0 (f_S_isStation S (a - 1)) := ⟨(Int.le_of_eq c_19.symm), (Int.le_of_eq c_19)⟩
      refine lv_lconst (v := zl 0) hx hb d_S_slopeBeyond_22 (by decide) ?_
      exact ze_l hx hb hr hlocks hq d_S_slopeBeyond_23
def f_S_needWith (S : Nat → Int → Int) (a v w : Int) : Int := (Int.tdiv ((w * (S 11 4)) * 10) 36) + (Int.tdiv ((w * w) * 100000) (2592 * (zmax 20 ((S 11 5) + (f_S_slopeBeyond S a v)))))
theorem br_S_needWith (S : Nat → Int → Int) (a v w : Int) (hI : iS S) (ha : zB 0 59 a) (hv : zB 0 1 v) (hw : zB 0 200 w) : zB 0 82716 (f_S_needWith S a v w) := by
  have h1 : zB 0 5555 (Int.tdiv ((w * S 11 4) * 10) 36) := zB.w (zb_tdivp (c := 36) (zb_mulp (zb_mulp hw (iS_s4 hI) (by decide) (by decide)) (zb_c 10) (by decide) (by decide)) (by decide) (by decide) (by decide)) (by decide) (by decide)
  have h2 : zB 20 196201000 (zmax 20 (S 11 5 + f_S_slopeBeyond S a v)) := zb_maxl (zb_c 20) (zb_add (iS_s5 hI) (br_S_slopeBeyond S a v hI ha hv)) (by decide) (by decide) (by decide)
  have h3 : zB 0 77161 (Int.tdiv ((w * w) * 100000) (2592 * zmax 20 (S 11 5 + f_S_slopeBeyond S a v))) := zB.w (zb_tdivp (c := 51840) (zb_mulp (zb_mulp hw hw (by decide) (by decide)) (zb_c 100000) (by decide) (by decide)) (by decide) (by decide) (by have := h2.1; omega)) (by decide) (by decide)
  exact zB.w (zb_add h1 h3) (by decide) (by decide)
set_option maxHeartbeats 4000000 in
set_option maxRecDepth 100000 in
theorem k_S_needWith (l : Launch) (dC : Nat → ClassId) (dI : Nat → Nat → Nat) (ad : Nat → Nat) (cI : ClassId) (S : Nat → Int → Int) (k0 k1 k2 k3 : Int) (hI : iS S) (a v w : Int) (hb_a : zB 0 59 a) (hb_v : zB 0 1 v) (hb_w : zB 0 200 w) : Met l y_S_needWith (Cond.code y_S_needWith c_S_needWith 8 (some .int) :: zT) { frames := 2, cells := 0, slots := 0, locals := 46 } (va_Pc ([.ref (ad 0), .int (zi a), .int (zi v), .int (zi w)] : List Value) (zWS dC dI ad cI S k0 k1 k2 k3)) (zR (.int (zi (f_S_needWith S a v w)))) 0 0 (fun _ => False) := by
  refine zh (cc := c_S_needWith) (C := R_S) (by decide) rfl rfl (Nat.le_of_ble_eq_true rfl) ?_
  intro p e s m below meth c ls hx hb hr hlocks hml hown hname hts hl hB
  have hw : ∀ w9 ∈ zT, w9.before ([.ref (ad 0), .int (zi a), .int (zi v), .int (zi w)] : List Value).toArray s = true := fun w9 h => hts w9 (List.mem_cons_of_mem _ h)
  obtain ⟨hP, hK, hN⟩ := hB
  obtain ⟨hn0, hn1⟩ := id (iS_s0 hI)
  obtain ⟨hz0, hz1⟩ := id (iS_s6 hI)
  obtain ⟨hl_a, hh_a⟩ := id hb_a
  obtain ⟨hl_v, hh_v⟩ := id hb_v
  obtain ⟨hl_w, hh_w⟩ := id hb_w
  generalize hq : f_S_needWith S a v w = r
  unfold f_S_needWith at hq
  replace hl : lv_has ls 8 [(0, .ref (ad 0)), (1, .int (zi a)), (2, .int (zi v)), (3, .int (zi w))] := hl
  refine lv_iload_n hx hb d_S_needWith_0 rfl (lv_at hl 3 rfl) ?_
  refine zr_i2l hx hb (zB.I hb_w (by decide) (by decide)) d_S_needWith_1 ?_
  refine lv_aload_n hx hb d_S_needWith_2 rfl (lv_at hl 0 rfl) ?_
  refine va_get (D := (dC, dI)) (ci := 1) (v := .int (zi (S 11 4))) (C := R_S) (T := T_S) (N := 13) hx hb hw i_S hown hK hP 0 rfl rfl 11 (by decide) (hw _ m_42) (fun _ h9 => h9) rfl d_S_needWith_3 ?_
  refine zr_i2l hx hb (zB.I (iS_s4 hI) (by decide) (by decide)) d_S_needWith_6 ?_
  have b_1 : zB 0 20000 (w * (S 11 4)) := zB.w (zb_mulq hb_w (iS_s4 hI) (by decide) (by decide)) (by decide) (by decide)
  refine zr_lmul hx hb d_S_needWith_7 ?_
  refine lv_ldc2 (v := zl 10) hx hb hown (hw _ m_162) d_S_needWith_8 ?_
  have b_2 : zB 0 200000 ((w * (S 11 4)) * 10) := zB.w (zb_mulq b_1 (zb_c 10) (by decide) (by decide)) (by decide) (by decide)
  refine zr_lmul hx hb d_S_needWith_11 ?_
  refine lv_ldc2 (v := zl 36) hx hb hown (hw _ m_163) d_S_needWith_12 ?_
  refine zr_ldiv hx hb (zB.L b_2 (by decide) (by decide)) (zB.L (zb_c 36) (by decide) (by decide)) (Int.lt_of_lt_of_le (by decide) (zb_c 36).1) d_S_needWith_15 ?_
  have b_3 : zB 0 5555 (Int.tdiv ((w * (S 11 4)) * 10) 36) := zB.w (zb_tdivp (c := 36) b_2 (by decide) (by decide) (zb_c 36).1) (by decide) (by decide)
  refine lv_lstore (lv' := [(4, .long (zl (Int.tdiv ((w * (S 11 4)) * 10) 36))), (0, .ref (ad 0)), (1, .int (zi a)), (2, .int (zi v)), (3, .int (zi w))]) hx hb d_S_needWith_16 hl (by decide) rfl (fun ls hl => ?_)
  refine lv_ldc2 (v := zl 20) hx hb hown (hw _ m_164) d_S_needWith_18 ?_
  refine lv_aload_n hx hb d_S_needWith_21 rfl (lv_at hl 1 rfl) ?_
  refine va_get (D := (dC, dI)) (ci := 1) (v := .int (zi (S 11 5))) (C := R_S) (T := T_S) (N := 13) hx hb hw i_S hown hK hP 0 rfl rfl 12 (by decide) (hw _ m_43) (fun _ h9 => h9) rfl d_S_needWith_22 ?_
  refine zr_i2l hx hb (zB.I (iS_s5 hI) (by decide) (by decide)) d_S_needWith_25 ?_
  refine lv_aload_n hx hb d_S_needWith_26 rfl (lv_at hl 1 rfl) ?_
  refine lv_iload_n hx hb d_S_needWith_27 rfl (lv_at hl 2 rfl) ?_
  refine lv_iload_n hx hb d_S_needWith_28 rfl (lv_at hl 3 rfl) ?_
  refine zc_n (va_runV (As := [.int (zi a), .int (zi v)]) (rest := [.long (zl (S 11 5)), .long (zl 20)]) ⟨hx, hb, hml, hown, hts⟩ (k_S_slopeBeyond l dC dI ad cI S k0 k1 k2 k3 hI a v (zB.w hb_a (by decide) (by decide)) (zB.w hb_v (by decide) (by decide)) ) (zcV 2 hts m_167 m_1 m_165 m_166 m_386 rfl rfl q_S_slopeBeyond ⟨Nat.le_of_ble_eq_true rfl, Nat.le_of_ble_eq_true rfl⟩) (zpS0 hP hK hN [.int (zi a), .int (zi v)]) rfl rfl hl.1 rfl (lv_room (Nat.le_of_ble_eq_true rfl)) d_S_needWith_29 ⟨Nat.zero_le _, Nat.zero_le _⟩) ?_
  have b_4 : zB (-196200000) 196200000 (f_S_slopeBeyond S a v) := br_S_slopeBeyond S a v hI (zB.w hb_a (by decide) (by decide)) (zB.w hb_v (by decide) (by decide)) 
  have b_5 : zB (-196199950) 196201000 ((S 11 5) + (f_S_slopeBeyond S a v)) := zB.w (zb_add (iS_s5 hI) b_4) (by decide) (by decide)
  refine zr_ladd hx hb d_S_needWith_32 ?_
  refine zr_maxl hx hb (hml.trans hl.1.symm) hown (hw _ m_169) (hw _ m_170) (hw _ m_4) (hw _ m_171) (Nat.le_of_ble_eq_true rfl) (Nat.le_of_ble_eq_true rfl) (Nat.zero_le _) (Nat.zero_le _) (zB.L (zb_c 20) (by decide) (by decide)) (zB.L b_5 (by decide) (by decide)) d_S_needWith_33 ?_
  have b_6 : zB 20 196201000 (zmax 20 ((S 11 5) + (f_S_slopeBeyond S a v))) := zB.w (zb_maxl (lo := 20) (hi := 196201000) (zb_c 20) b_5 (by decide) (by decide) (by decide)) (by decide) (by decide)
  refine lv_lstore (lv' := [(6, .long (zl (zmax 20 ((S 11 5) + (f_S_slopeBeyond S a v))))), (4, .long (zl (Int.tdiv ((w * (S 11 4)) * 10) 36))), (0, .ref (ad 0)), (1, .int (zi a)), (2, .int (zi v)), (3, .int (zi w))]) hx hb d_S_needWith_36 hl (by decide) rfl (fun ls hl => ?_)
  refine lv_lload hx hb d_S_needWith_38 (lv_at hl 1 rfl) ?_
  refine lv_iload_n hx hb d_S_needWith_40 rfl (lv_at hl 5 rfl) ?_
  refine zr_i2l hx hb (zB.I hb_w (by decide) (by decide)) d_S_needWith_41 ?_
  refine lv_iload_n hx hb d_S_needWith_42 rfl (lv_at hl 5 rfl) ?_
  refine zr_i2l hx hb (zB.I hb_w (by decide) (by decide)) d_S_needWith_43 ?_
  have b_7 : zB 0 40000 (w * w) := zB.w (zb_sq (A := 200) (zB.w hb_w (by decide) (by decide))) (by decide) (by decide)
  refine zr_lmul hx hb d_S_needWith_44 ?_
  refine lv_ldc2 (v := zl 100000) hx hb hown (hw _ m_172) d_S_needWith_45 ?_
  have b_8 : zB 0 4000000000 ((w * w) * 100000) := zB.w (zb_mulq b_7 (zb_c 100000) (by decide) (by decide)) (by decide) (by decide)
  refine zr_lmul hx hb d_S_needWith_48 ?_
  refine lv_ldc2 (v := zl 2592) hx hb hown (hw _ m_173) d_S_needWith_49 ?_
  refine lv_lload hx hb d_S_needWith_52 (lv_at hl 0 rfl) ?_
  have b_9 : zB 51840 508552992000 (2592 * (zmax 20 ((S 11 5) + (f_S_slopeBeyond S a v)))) := zB.w (zb_mulq (zb_c 2592) b_6 (by decide) (by decide)) (by decide) (by decide)
  refine zr_lmul hx hb d_S_needWith_54 ?_
  refine zr_ldiv hx hb (zB.L b_8 (by decide) (by decide)) (zB.L b_9 (by decide) (by decide)) (Int.lt_of_lt_of_le (by decide) b_9.1) d_S_needWith_55 ?_
  have b_10 : zB 0 77160 (Int.tdiv ((w * w) * 100000) (2592 * (zmax 20 ((S 11 5) + (f_S_slopeBeyond S a v))))) := zB.w (zb_tdivp (c := 51840) b_8 (by decide) (by decide) b_9.1) (by decide) (by decide)
  have b_11 : zB 0 82715 ((Int.tdiv ((w * (S 11 4)) * 10) 36) + (Int.tdiv ((w * w) * 100000) (2592 * (zmax 20 ((S 11 5) + (f_S_slopeBeyond S a v)))))) := zB.w (zb_add b_3 b_10) (by decide) (by decide)
  refine zr_ladd hx hb d_S_needWith_56 ?_
  refine zr_l2i hx hb d_S_needWith_57 ?_
  exact ze_i hx hb hr hlocks hq d_S_needWith_58
def f_S_roadBeyond (S : Nat → Int → Int) (a v : Int) : Int := if v = 0 then ((S 3 ((S 11 0) - 1)) - (S 3 a)) else (S 3 a)
theorem br_S_roadBeyond (S : Nat → Int → Int) (a v : Int) (hI : iS S) (_ : zB 0 59 a) (_ : zB 0 1 v) (_ : 0 < S 11 0) : zB (-2545620) 2545620 (f_S_roadBeyond S a v) := by
  unfold f_S_roadBeyond
  split
  · exact zB.w (zb_sub (iS_a3 hI _) (iS_a3 hI _)) (by decide) (by decide)
  · exact zB.w (iS_a3 hI _) (by decide) (by decide)
set_option maxHeartbeats 4000000 in
set_option maxRecDepth 100000 in
theorem k_S_roadBeyond (l : Launch) (dC : Nat → ClassId) (dI : Nat → Nat → Nat) (ad : Nat → Nat) (cI : ClassId) (S : Nat → Int → Int) (k0 k1 k2 k3 : Int) (hI : iS S) (a v : Int) (hb_a : zB 0 59 a) (hb_v : zB 0 1 v) (hy_0 : 0 < S 11 0) : Met l y_S_roadBeyond (Cond.code y_S_roadBeyond c_S_roadBeyond 3 (some .int) :: zT) { frames := 0, cells := 0, slots := 0, locals := 0 } (va_Pc ([.ref (ad 0), .int (zi a), .int (zi v)] : List Value) (zWS dC dI ad cI S k0 k1 k2 k3)) (zR (.int (zi (f_S_roadBeyond S a v)))) 0 0 (fun _ => False) := by
  refine zh (cc := c_S_roadBeyond) (C := R_S) (by decide) rfl rfl (Nat.le_of_ble_eq_true rfl) ?_
  intro p e s m below meth c ls hx hb hr hlocks hml hown hname hts hl hB
  have hw : ∀ w9 ∈ zT, w9.before ([.ref (ad 0), .int (zi a), .int (zi v)] : List Value).toArray s = true := fun w9 h => hts w9 (List.mem_cons_of_mem _ h)
  obtain ⟨hP, hK, hN⟩ := hB
  obtain ⟨hn0, hn1⟩ := id (iS_s0 hI)
  obtain ⟨hz0, hz1⟩ := id (iS_s6 hI)
  obtain ⟨hl_a, hh_a⟩ := id hb_a
  obtain ⟨hl_v, hh_v⟩ := id hb_v
  generalize hq : f_S_roadBeyond S a v = r
  unfold f_S_roadBeyond at hq
  replace hl : lv_has ls 3 [(0, .ref (ad 0)), (1, .int (zi a)), (2, .int (zi v))] := hl
  refine lv_iload_n hx hb d_S_roadBeyond_0 rfl (lv_at hl 2 rfl) ?_
  refine zr_if_eq (tgt := 13) hx hb (zB.I hb_v (by decide) (by decide)) d_S_roadBeyond_1 (by decide) (fun c_1 => ?_) (fun c_1 => ?_)
  · replace hq := (if_pos c_1).symm.trans hq
    have r_2 : zB 0 0 v := ⟨(Int.le_of_eq c_1.symm), (Int.le_of_eq c_1)⟩
    refine lv_aload_n hx hb d_S_roadBeyond_13 rfl (lv_at hl 0 rfl) ?_
    refine va_get (D := (dC, dI)) (ci := 1) (v := .ref (ad 4)) (C := R_S) (T := T_S) (N := 13) hx hb hw i_S hown hK hP 0 rfl rfl 3 (by decide) (hw _ m_34) (fun _ h9 => h9) rfl d_S_roadBeyond_14 ?_
    refine lv_aload_n hx hb d_S_roadBeyond_17 rfl (lv_at hl 0 rfl) ?_
    refine va_get (D := (dC, dI)) (ci := 1) (v := .int (zi (S 11 0))) (C := R_S) (T := T_S) (N := 13) hx hb hw i_S hown hK hP 0 rfl rfl 7 (by decide) (hw _ m_38) (fun _ h9 => h9) rfl d_S_roadBeyond_18 ?_
    refine lv_iconst (v := zi 1) hx hb d_S_roadBeyond_21 rfl ?_
    have b_3 : zB (-1) 59 ((S 11 0) - 1) := zB.w (zb_sub (iS_s0 hI) (zb_c 1)) (by decide) (by decide)
    refine zr_isub hx hb d_S_roadBeyond_22 ?_
    refine zr_iald hx hb hK hP 4 0 (cA := cI) (n := 60) (g := S 3) rfl rfl (i := (S 11 0) - 1) (by omega) (by omega) (by decide) d_S_roadBeyond_23 ?_
    refine lv_aload_n hx hb d_S_roadBeyond_24 rfl (lv_at hl 0 rfl) ?_
    refine va_get (D := (dC, dI)) (ci := 1) (v := .ref (ad 4)) (C := R_S) (T := T_S) (N := 13) hx hb hw i_S hown hK hP 0 rfl rfl 3 (by decide) (hw _ m_34) (fun _ h9 => h9) rfl d_S_roadBeyond_25 ?_
    refine lv_iload_n hx hb d_S_roadBeyond_28 rfl (lv_at hl 1 rfl) ?_
    refine zr_iald hx hb hK hP 4 0 (cA := cI) (n := 60) (g := S 3) rfl rfl (i := a) (by omega) (by omega) (by decide) d_S_roadBeyond_29 ?_
    have b_4 : zB (-2545620) 2545620 ((S 3 ((S 11 0) - 1)) - (S 3 a)) := zB.w (zb_sub (iS_a3 hI ((S 11 0) - 1)) (iS_a3 hI a)) (by decide) (by decide)
    refine zr_isub hx hb d_S_roadBeyond_30 ?_
    exact ze_i hx hb hr hlocks hq d_S_roadBeyond_31
  · replace hq := (if_neg c_1).symm.trans hq
    have r_5 : zB 1 1 v := ⟨(by have := hb_v.1; omega), hb_v.2⟩
    refine lv_aload_n hx hb d_S_roadBeyond_4 rfl (lv_at hl 0 rfl) ?_
    refine va_get (D := (dC, dI)) (ci := 1) (v := .ref (ad 4)) (C := R_S) (T := T_S) (N := 13) hx hb hw i_S hown hK hP 0 rfl rfl 3 (by decide) (hw _ m_34) (fun _ h9 => h9) rfl d_S_roadBeyond_5 ?_
    refine lv_iload_n hx hb d_S_roadBeyond_8 rfl (lv_at hl 1 rfl) ?_
    refine zr_iald hx hb hK hP 4 0 (cA := cI) (n := 60) (g := S 3) rfl rfl (i := a) (by omega) (by omega) (by decide) d_S_roadBeyond_9 ?_
    refine lv_goto (tgt := 31) hx hb d_S_roadBeyond_10 (by decide) ?_
    exact ze_i hx hb hr hlocks hq d_S_roadBeyond_31
