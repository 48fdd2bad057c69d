def f_S_way (S : Nat → Int → Int) (a : Int) : Int := if (f_S_isStation S a) = 0 then (-1) else (S 3 a)
set_option maxHeartbeats 4000000 in
set_option maxRecDepth 100000 in
theorem k_S_way (l : Launch) (dC : Nat → ClassId) (dI : Nat → Nat → Nat) (ad : Nat → Nat) (cI : ClassId) (S : Nat → Int → Int) (k0 k1 k2 k3 : Int) (hI : iS S) (a : Int) (hb_a : zB (-2147483648) 2147483647 a) : Met l y_S_way (Cond.code y_S_way c_S_way 2 (some .int) :: zT) { frames := 1, cells := 0, slots := 0, locals := 21 } (va_Pc ([.ref (ad 0), .int (zi a)] : List Value) (zWS dC dI ad cI S k0 k1 k2 k3)) (zR (.int (zi (f_S_way S a)))) 0 0 (fun _ => False) := by
  refine zh (cc := c_S_way) (C := R_S) (by decide) rfl rfl (Nat.le_of_ble_eq_true rfl) ?_
  intro p e s m below meth c ls hx hb hr hlocks hml hown hname hts hl hB
  have hw : ∀ w9 ∈ zT, w9.before ([.ref (ad 0), .int (zi a)] : List Value).toArray s = true := fun w9 h => hts w9 (List.mem_cons_of_mem _ h)
  obtain ⟨hP, hK, hN⟩ := hB
  obtain ⟨hn0, hn1⟩ := id (iS_s0 hI)
  obtain ⟨hz0, hz1⟩ := id (iS_s6 hI)
  obtain ⟨hl_a, hh_a⟩ := id hb_a
  generalize hq : f_S_way S a = r
  unfold f_S_way at hq
  replace hl : lv_has ls 2 [(0, .ref (ad 0)), (1, .int (zi a))] := hl
  refine lv_aload_n hx hb d_S_way_0 rfl (lv_at hl 0 rfl) ?_
  refine lv_iload_n hx hb d_S_way_1 rfl (lv_at hl 1 rfl) ?_
  refine zc_n (va_runV (As := [.int (zi a)]) (rest := []) ⟨hx, hb, hml, hown, hts⟩ (k_S_isStation l dC dI ad cI S k0 k1 k2 k3 hI a (zB.w hb_a (by decide) (by decide)) ) (zcV 1 hts m_84 m_1 m_82 m_83 m_374 rfl rfl q_S_isStation ⟨Nat.le_of_ble_eq_true rfl, Nat.le_of_ble_eq_true rfl⟩) (zpS0 hP hK hN [.int (zi a)]) rfl rfl hl.1 rfl (lv_room (Nat.le_of_ble_eq_true rfl)) d_S_way_2 ⟨Nat.zero_le _, Nat.zero_le _⟩) ?_
  refine zr_if_eq (tgt := 17) hx hb (zB.I (bb_S_isStation S a) (by decide) (by decide)) d_S_way_5 (by decide) (fun c_1 => ?_) (fun c_1 => ?_)
  · replace hq := (if_pos c_1).symm.trans hq
    have r_2 : zB 0 0 (f_S_isStation S a) := ⟨(Int.le_of_eq c_1.symm), (Int.le_of_eq c_1)⟩
    refine lv_iconst (v := zi (-1)) hx hb d_S_way_17 rfl ?_
    exact ze_i hx hb hr hlocks hq d_S_way_18
  · replace hq := (if_neg c_1).symm.trans hq
    have r_3 : zB 1 1 (f_S_isStation S a) := ⟨(by have := (bb_S_isStation S a).1; omega), (bb_S_isStation S a).2⟩
    have g_4 := gf_S_isStation hI c_1
    obtain ⟨g_4l, g_4h⟩ := id g_4.1
    have g_4n := g_4.2
    refine lv_aload_n hx hb d_S_way_8 rfl (lv_at hl 0 rfl) ?_
    refine va_get (D := (dC, dI)) (ci := 1) (v := .ref (ad 4)) (C := R_S) (T := T_S) (N := 13) hx hb hw i_S hown hK hP 0 rfl rfl 3 (by decide) (hw _ m_34) (fun _ h9 => h9) rfl d_S_way_9 ?_
    refine lv_iload_n hx hb d_S_way_12 rfl (lv_at hl 1 rfl) ?_
    refine zr_iald hx hb hK hP 4 0 (cA := cI) (n := 60) (g := S 3) rfl rfl (i := a) (by omega) (by omega) (by decide) d_S_way_13 ?_
    refine lv_goto (tgt := 18) hx hb d_S_way_14 (by decide) ?_
    exact ze_i hx hb hr hlocks hq d_S_way_18
def f_S_view (S : Nat → Int → Int) (a b d : Int) : Int := if (f_S_isStation S a) = 0 then (-1) else (if (f_S_isStation S b) = 0 then (-1) else (if a = b then (-1) else (if (f_S_isWithin d 0 1) = 0 then (-1) else (if d = 0 then (Int.tdiv (f_S_interruption S a b) 64) else (if (f_S_interruption S a b) = 0 then (-1) else (Int.tmod (f_S_interruption S a b) 64))))))
set_option maxHeartbeats 4000000 in
set_option maxRecDepth 100000 in
theorem k_S_view (l : Launch) (dC : Nat → ClassId) (dI : Nat → Nat → Nat) (ad : Nat → Nat) (cI : ClassId) (S : Nat → Int → Int) (k0 k1 k2 k3 : Int) (hI : iS S) (hj : zJ 13 ad) (hb_k0 : zB (-30000) 30000 k0) (hb_k1 : zB (-30000) 30000 k1) (hb_k2 : zB (-30000) 30000 k2) (hb_k3 : zB (-30000) 30000 k3) (a b d : Int) (hb_a : zB (-2147483648) 2147483647 a) (hb_b : zB (-2147483648) 2147483647 b) (hb_d : zB (-2147483648) 2147483647 d) : Met l y_S_view (Cond.code y_S_view c_S_view 5 (some .int) :: zT) { frames := 4, cells := 0, slots := 0, locals := 96 } (va_Pc ([.ref (ad 0), .int (zi a), .int (zi b), .int (zi d)] : List Value) (zWS dC dI ad cI S k0 k1 k2 k3)) (zQ (some (.int (zi (f_S_view S a b d)))) (fun H => ∃ k0 k1 k2 k3 : Int, zB (-30000) 30000 k0 ∧ zB (-30000) 30000 k1 ∧ zB (-30000) 30000 k2 ∧ zB (-30000) 30000 k3 ∧ va_P (dC, dI) classes (wS ad cI S k0 k1 k2 k3) H) (zAS ad)) 0 0 (zAS ad) := by
  refine zh (cc := c_S_view) (C := R_S) (by decide) rfl rfl (Nat.le_of_ble_eq_true rfl) ?_
  intro p e s m below meth c ls hx hb hr hlocks hml hown hname hts hl hB
  have hw : ∀ w9 ∈ zT, w9.before ([.ref (ad 0), .int (zi a), .int (zi b), .int (zi d)] : List Value).toArray s = true := fun w9 h => hts w9 (List.mem_cons_of_mem _ h)
  obtain ⟨hP, hK, hN⟩ := hB
  obtain ⟨hn0, hn1⟩ := id (iS_s0 hI)
  have hD := zDS hj cI
  have hS : va_S (zAS ad) s.heap s.heap [] := va_S.rf
  obtain ⟨hz0, hz1⟩ := id (iS_s6 hI)
  obtain ⟨hl_a, hh_a⟩ := id hb_a
  obtain ⟨hl_b, hh_b⟩ := id hb_b
  obtain ⟨hl_d, hh_d⟩ := id hb_d
  generalize hq : f_S_view S a b d = r
  unfold f_S_view at hq
  replace hl : lv_has ls 5 [(0, .ref (ad 0)), (1, .int (zi a)), (2, .int (zi b)), (3, .int (zi d))] := hl
  refine lv_aload_n hx hb d_S_view_0 rfl (lv_at hl 0 rfl) ?_
  refine lv_iload_n hx hb d_S_view_1 rfl (lv_at hl 1 rfl) ?_
  refine zc_n (va_runV (As := [.int (zi a)]) (rest := []) ⟨hx, hb, hml, hown, hts⟩ (k_S_isStation l dC dI ad cI S k0 k1 k2 k3 hI a (zB.w hb_a (by decide) (by decide)) ) (zcV 1 hts m_84 m_1 m_82 m_83 m_374 rfl rfl q_S_isStation ⟨Nat.le_of_ble_eq_true rfl, Nat.le_of_ble_eq_true rfl⟩) (zpS0 hP hK hN [.int (zi a)]) rfl rfl hl.1 rfl (lv_room (Nat.le_of_ble_eq_true rfl)) d_S_view_2 ⟨Nat.zero_le _, Nat.zero_le _⟩) ?_
  refine zr_if_eq (tgt := 30) hx hb (zB.I (bb_S_isStation S a) (by decide) (by decide)) d_S_view_5 (by decide) (fun c_1 => ?_) (fun c_1 => ?_)
  · replace hq := (if_pos c_1).symm.trans hq
    have r_2 : zB 0 0 (f_S_isStation S a) := ⟨(Int.le_of_eq c_1.symm), (Int.le_of_eq c_1)⟩
    refine lv_iconst (v := zi (-1)) hx hb d_S_view_30 rfl ?_
    exact zw_i hx hb hr hlocks hq ⟨k0, k1, k2, k3, zB.w hb_k0 (by decide) (by decide), zB.w hb_k1 (by decide) (by decide), zB.w hb_k2 (by decide) (by decide), zB.w hb_k3 (by decide) (by decide), hP⟩ hS d_S_view_31
  · replace hq := (if_neg c_1).symm.trans hq
    have r_3 : zB 1 1 (f_S_isStation S a) := ⟨(by have := (bb_S_isStation S a).1; omega), (bb_S_isStation S a).2⟩
    have g_4 := gf_S_isStation hI c_1
    obtain ⟨g_4l, g_4h⟩ := id g_4.1
    have g_4n := g_4.2
    refine lv_aload_n hx hb d_S_view_8 rfl (lv_at hl 0 rfl) ?_
    refine lv_iload_n hx hb d_S_view_9 rfl (lv_at hl 2 rfl) ?_
    refine zc_n (va_runV (As := [.int (zi b)]) (rest := []) ⟨hx, hb, hml, hown, hts⟩ (k_S_isStation l dC dI ad cI S k0 k1 k2 k3 hI b (zB.w hb_b (by decide) (by decide)) ) (zcV 1 hts m_84 m_1 m_82 m_83 m_374 rfl rfl q_S_isStation ⟨Nat.le_of_ble_eq_true rfl, Nat.le_of_ble_eq_true rfl⟩) (zpS0 hP hK hN [.int (zi b)]) rfl rfl hl.1 rfl (lv_room (Nat.le_of_ble_eq_true rfl)) d_S_view_10 ⟨Nat.zero_le _, Nat.zero_le _⟩) ?_
    refine zr_if_eq (tgt := 30) hx hb (zB.I (bb_S_isStation S b) (by decide) (by decide)) d_S_view_13 (by decide) (fun c_5 => ?_) (fun c_5 => ?_)
    · replace hq := (if_pos c_5).symm.trans hq
      have r_6 : zB 0 0 (f_S_isStation S b) := ⟨(Int.le_of_eq c_5.symm), (Int.le_of_eq c_5)⟩
      refine lv_iconst (v := zi (-1)) hx hb d_S_view_30 rfl ?_
      exact zw_i hx hb hr hlocks hq ⟨k0, k1, k2, k3, zB.w hb_k0 (by decide) (by decide), zB.w hb_k1 (by decide) (by decide), zB.w hb_k2 (by decide) (by decide), zB.w hb_k3 (by decide) (by decide), hP⟩ hS d_S_view_31
    · replace hq := (if_neg c_5).symm.trans hq
      have r_7 : zB 1 1 (f_S_isStation S b) := ⟨(by have := (bb_S_isStation S b).1; omega), (bb_S_isStation S b).2⟩
      have g_8 := gf_S_isStation hI c_5
      obtain ⟨g_8l, g_8h⟩ := id g_8.1
      have g_8n := g_8.2
      refine lv_iload_n hx hb d_S_view_16 rfl (lv_at hl 1 rfl) ?_
      refine lv_iload_n hx hb d_S_view_17 rfl (lv_at hl 2 rfl) ?_
      refine zr_icmp_eq (tgt := 30) hx hb (zB.I g_4.1 (by decide) (by decide)) (zB.I g_8.1 (by decide) (by decide)) d_S_view_18 (by decide) (fun c_9 => ?_) (fun c_9 => ?_)
      · replace hq := (if_pos c_9).symm.trans hq
        refine lv_iconst (v := zi (-1)) hx hb d_S_view_30 rfl ?_
        exact zw_i hx hb hr hlocks hq ⟨k0, k1, k2, k3, zB.w hb_k0 (by decide) (by decide), zB.w hb_k1 (by decide) (by decide), zB.w hb_k2 (by decide) (by decide), zB.w hb_k3 (by decide) (by decide), hP⟩ hS d_S_view_31
      · replace hq := (if_neg c_9).symm.trans hq
        refine lv_iload_n hx hb d_S_view_21 rfl (lv_at hl 3 rfl) ?_
        refine lv_iconst (v := zi 0) hx hb d_S_view_22 rfl ?_
        refine lv_iconst (v := zi 1) hx hb d_S_view_23 rfl ?_
        refine zc_n (va_runS (As := [.int (zi d), .int (zi 0), .int (zi 1)]) (rest := []) ⟨hx, hb, hml, hown, hts⟩ (k_S_isWithin l d 0 1 (zB.w hb_d (by decide) (by decide)) (zB.w (zb_c 0) (by decide) (by decide)) (zB.w (zb_c 1) (by decide) (by decide)) ) (zcS 3 hts m_53 m_1 m_51 m_52 rfl rfl q_S_isWithin ⟨Nat.le_of_ble_eq_true rfl, Nat.le_of_ble_eq_true rfl⟩) (zp0 [.int (zi d), .int (zi 0), .int (zi 1)]) rfl rfl hl.1 rfl (lv_room (Nat.le_of_ble_eq_true rfl)) d_S_view_24 ⟨Nat.zero_le _, Nat.zero_le _⟩) ?_
        refine zr_if_ne (tgt := 32) hx hb (zB.I (bb_S_isWithin d 0 1) (by decide) (by decide)) d_S_view_27 (by decide) (fun c_10 => ?_) (fun c_10 => ?_)
        · replace hq := (if_neg c_10).symm.trans hq
          have r_11 : zB 1 1 (f_S_isWithin d 0 1) := ⟨(by have := (bb_S_isWithin d 0 1).1; omega), (bb_S_isWithin d 0 1).2⟩
          have g_12 := gf_S_isWithin c_10
          obtain ⟨g_12l, g_12h⟩ := id g_12
          refine lv_aload_n hx hb d_S_view_32 rfl (lv_at hl 0 rfl) ?_
          refine lv_iload_n hx hb d_S_view_33 rfl (lv_at hl 1 rfl) ?_
          refine lv_iload_n hx hb d_S_view_34 rfl (lv_at hl 2 rfl) ?_
          refine zc_w (va_runV (As := [.int (zi a), .int (zi b)]) (rest := []) ⟨hx, hb, hml, hown, hts⟩ (k_S_interruption l dC dI ad cI S k0 k1 k2 k3 hI hj (zB.w hb_k0 (by decide) (by decide)) (zB.w hb_k1 (by decide) (by decide)) (zB.w hb_k2 (by decide) (by decide)) (zB.w hb_k3 (by decide) (by decide)) a b (zB.w g_4.1 (by decide) (by decide)) (zB.w g_8.1 (by decide) (by decide)) ) (zcV 2 hts m_113 m_1 m_111 m_112 m_376 rfl rfl q_S_interruption ⟨Nat.le_of_ble_eq_true rfl, Nat.le_of_ble_eq_true rfl⟩) (zpS0 hP hK hN [.int (zi a), .int (zi b)]) rfl rfl hl.1 rfl (lv_room (Nat.le_of_ble_eq_true rfl)) d_S_view_35 ⟨Nat.zero_le _, Nat.zero_le _⟩) hS (fun q _ h => h) (fun q h => h) (fun H locs hP hz1 hk1 hS => ?_)
          clear hz1 hk1
          obtain ⟨k0_e_13, k1_e_13, k2_e_13, k3_e_13, hk0_e_13, hk1_e_13, hk2_e_13, hk3_e_13, hP⟩ := hP
          have b_14 : zB 0 255 (f_S_interruption S a b) := br_S_interruption S a b hI (zB.w g_4.1 (by decide) (by decide)) (zB.w g_8.1 (by decide) (by decide)) 
          refine lv_istore (lv' := [(4, .int (zi (f_S_interruption S a b))), (0, .ref (ad 0)), (1, .int (zi a)), (2, .int (zi b)), (3, .int (zi d))]) hx hb d_S_view_38 hl (by decide) rfl (fun ls hl => ?_)
          refine lv_iload_n hx hb d_S_view_40 rfl (lv_at hl 4 rfl) ?_
          refine zr_if_ne (tgt := 50) hx hb (zB.I g_12 (by decide) (by decide)) d_S_view_41 (by decide) (fun c_15 => ?_) (fun c_15 => ?_)
          · replace hq := (if_neg c_15).symm.trans hq
            have r_16 : zB 1 1 d := ⟨(by have := g_12.1; omega), g_12.2⟩
            refine lv_iload hx hb d_S_view_50 (lv_at hl 0 rfl) ?_
            refine zr_if_ne (tgt := 59) hx hb (zB.I b_14 (by decide) (by decide)) d_S_view_52 (by decide) (fun c_17 => ?_) (fun c_17 => ?_)
            · replace hq := (if_neg c_17).symm.trans hq
              have r_18 : zB 1 255 (f_S_interruption S a b) := ⟨(by have := b_14.1; omega), b_14.2⟩
              refine lv_iload hx hb d_S_view_59 (lv_at hl 0 rfl) ?_
              refine lv_bipush (v := zi 64) hx hb d_S_view_61 (by decide) ?_
              refine zr_irem hx hb (zB.I r_18 (by decide) (by decide)) (zB.I (zb_c 64) (by decide) (by decide)) (Int.lt_of_lt_of_le (by decide) (zb_c 64).1) d_S_view_63 ?_
              have b_19 : zB 0 63 (Int.tmod (f_S_interruption S a b) 64) := zB.w (zb_tmodp r_18 (zb_c 64) (by decide) (by decide)) (by decide) (by decide)
              exact zw_i hx hb hr hlocks hq ⟨k0_e_13, k1_e_13, k2_e_13, k3_e_13, zB.w hk0_e_13 (by decide) (by decide), zB.w hk1_e_13 (by decide) (by decide), zB.w hk2_e_13 (by decide) (by decide), zB.w hk3_e_13 (by decide) (by decide), hP⟩ hS d_S_view_64
            · replace hq := (if_pos c_17).symm.trans hq
              have r_20 : zB 0 0 (f_S_interruption S a b) := ⟨(Int.le_of_eq c_17.symm), (Int.le_of_eq c_17)⟩
              refine lv_iconst (v := zi (-1)) hx hb d_S_view_55 rfl ?_
              refine lv_goto (tgt := 64) hx hb d_S_view_56 (by decide) ?_
              exact zw_i hx hb hr hlocks hq ⟨k0_e_13, k1_e_13, k2_e_13, k3_e_13, zB.w hk0_e_13 (by decide) (by decide), zB.w hk1_e_13 (by decide) (by decide), zB.w hk2_e_13 (by decide) (by decide), zB.w hk3_e_13 (by decide) (by decide), hP⟩ hS d_S_view_64
          · replace hq := (if_pos c_15).symm.trans hq
            have r_21 : zB 0 0 d := ⟨(Int.le_of_eq c_15.symm), (Int.le_of_eq c_15)⟩
            refine lv_iload hx hb d_S_view_44 (lv_at hl 0 rfl) ?_
            refine lv_bipush (v := zi 64) hx hb d_S_view_46 (by decide) ?_
            refine zr_idiv hx hb (zB.I b_14 (by decide) (by decide)) (zB.I (zb_c 64) (by decide) (by decide)) (Int.lt_of_lt_of_le (by decide) (zb_c 64).1) d_S_view_48 ?_
            have b_22 : zB 0 3 (Int.tdiv (f_S_interruption S a b) 64) := zB.w (zb_tdivp (c := 64) b_14 (by decide) (by decide) (zb_c 64).1) (by decide) (by decide)
            exact zw_i hx hb hr hlocks hq ⟨k0_e_13, k1_e_13, k2_e_13, k3_e_13, zB.w hk0_e_13 (by decide) (by decide), zB.w hk1_e_13 (by decide) (by decide), zB.w hk2_e_13 (by decide) (by decide), zB.w hk3_e_13 (by decide) (by decide), hP⟩ hS d_S_view_49
        · replace hq := (if_pos c_10).symm.trans hq
          have r_23 : zB 0 0 (f_S_isWithin d 0 1) := ⟨(Int.le_of_eq c_10.symm), (Int.le_of_eq c_10)⟩
          refine lv_iconst (v := zi (-1)) hx hb d_S_view_30 rfl ?_
          exact zw_i hx hb hr hlocks hq ⟨k0, k1, k2, k3, zB.w hb_k0 (by decide) (by decide), zB.w hb_k1 (by decide) (by decide), zB.w hb_k2 (by decide) (by decide), zB.w hb_k3 (by decide) (by decide), hP⟩ hS d_S_view_31
def f_S_sight (S : Nat → Int → Int) (a v : Int) : Int := if (f_S_isStation S a) = 0 then (-1) else (f_S_sightFrom S a v)
set_option maxHeartbeats 4000000 in
set_option maxRecDepth 100000 in
theorem k_S_sight (l : Launch) (dC : Nat → ClassId) (dI : Nat → Nat → Nat) (ad : Nat → Nat) (cI : ClassId) (S : Nat → Int → Int) (k0 k1 k2 k3 : Int) (hI : iS S) (hj : zJ 13 ad) (hb_k0 : zB (-30000) 30000 k0) (hb_k1 : zB (-30000) 30000 k1) (hb_k2 : zB (-30000) 30000 k2) (hb_k3 : zB (-30000) 30000 k3) (a v : Int) (hb_a : zB (-2147483648) 2147483647 a) (hb_v : zB 0 1 v) : Met l y_S_sight (Cond.code y_S_sight c_S_sight 3 (some .int) :: zT) { frames := 5, cells := 0, slots := 0, locals := 121 } (va_Pc ([.ref (ad 0), .int (zi a), .int (zi v)] : List Value) (zWS dC dI ad cI S k0 k1 k2 k3)) (zQ (some (.int (zi (f_S_sight S a v)))) (fun H => ∃ k0 k1 k2 k3 : Int, zB (-30000) 30000 k0 ∧ zB (-30000) 30000 k1 ∧ zB (-30000) 30000 k2 ∧ zB (-30000) 30000 k3 ∧ va_P (dC, dI) classes (wS ad cI S k0 k1 k2 k3) H) (zAS ad)) 0 0 (zAS ad) := by
  refine zh (cc := c_S_sight) (C := R_S) (by decide) rfl rfl (Nat.le_of_ble_eq_true rfl) ?_
  intro p e s m below meth c ls hx hb hr hlocks hml hown hname hts hl hB
  have hw : ∀ w9 ∈ zT, w9.before ([.ref (ad 0), .int (zi a), .int (zi v)] : List Value).toArray s = true := fun w9 h => hts w9 (List.mem_cons_of_mem _ h)
  obtain ⟨hP, hK, hN⟩ := hB
  obtain ⟨hn0, hn1⟩ := id (iS_s0 hI)
  have hD := zDS hj cI
  have hS : va_S (zAS ad) s.heap s.heap [] := va_S.rf
  obtain ⟨hz0, hz1⟩ := id (iS_s6 hI)
  obtain ⟨hl_a, hh_a⟩ := id hb_a
  obtain ⟨hl_v, hh_v⟩ := id hb_v
  generalize hq : f_S_sight S a v = r
  unfold f_S_sight at hq
  replace hl : lv_has ls 3 [(0, .ref (ad 0)), (1, .int (zi a)), (2, .int (zi v))] := hl
  refine lv_aload_n hx hb d_S_sight_0 rfl (lv_at hl 0 rfl) ?_
  refine lv_iload_n hx hb d_S_sight_1 rfl (lv_at hl 1 rfl) ?_
  refine zc_n (va_runV (As := [.int (zi a)]) (rest := []) ⟨hx, hb, hml, hown, hts⟩ (k_S_isStation l dC dI ad cI S k0 k1 k2 k3 hI a (zB.w hb_a (by decide) (by decide)) ) (zcV 1 hts m_84 m_1 m_82 m_83 m_374 rfl rfl q_S_isStation ⟨Nat.le_of_ble_eq_true rfl, Nat.le_of_ble_eq_true rfl⟩) (zpS0 hP hK hN [.int (zi a)]) rfl rfl hl.1 rfl (lv_room (Nat.le_of_ble_eq_true rfl)) d_S_sight_2 ⟨Nat.zero_le _, Nat.zero_le _⟩) ?_
  refine zr_if_eq (tgt := 17) hx hb (zB.I (bb_S_isStation S a) (by decide) (by decide)) d_S_sight_5 (by decide) (fun c_1 => ?_) (fun c_1 => ?_)
  · replace hq := (if_pos c_1).symm.trans hq
    have r_2 : zB 0 0 (f_S_isStation S a) := ⟨(Int.le_of_eq c_1.symm), (Int.le_of_eq c_1)⟩
    refine lv_iconst (v := zi (-1)) hx hb d_S_sight_17 rfl ?_
    exact zw_i hx hb hr hlocks hq ⟨k0, k1, k2, k3, zB.w hb_k0 (by decide) (by decide), zB.w hb_k1 (by decide) (by decide), zB.w hb_k2 (by decide) (by decide), zB.w hb_k3 (by decide) (by decide), hP⟩ hS d_S_sight_18
  · replace hq := (if_neg c_1).symm.trans hq
    have r_3 : zB 1 1 (f_S_isStation S a) := ⟨(by have := (bb_S_isStation S a).1; omega), (bb_S_isStation S a).2⟩
    have g_4 := gf_S_isStation hI c_1
    obtain ⟨g_4l, g_4h⟩ := id g_4.1
    have g_4n := g_4.2
    refine lv_aload_n hx hb d_S_sight_8 rfl (lv_at hl 0 rfl) ?_
    refine lv_iload_n hx hb d_S_sight_9 rfl (lv_at hl 1 rfl) ?_
    refine lv_iload_n hx hb d_S_sight_10 rfl (lv_at hl 2 rfl) ?_
    refine zc_w (va_runV (As := [.int (zi a), .int (zi v)]) (rest := []) ⟨hx, hb, hml, hown, hts⟩ (k_S_sightFrom l dC dI ad cI S k0 k1 k2 k3 hI hj (zB.w hb_k0 (by decide) (by decide)) (zB.w hb_k1 (by decide) (by decide)) (zB.w hb_k2 (by decide) (by decide)) (zB.w hb_k3 (by decide) (by decide)) a v (zB.w g_4.1 (by decide) (by decide)) (zB.w hb_v (by decide) (by decide)) ) (zcV 2 hts m_154 m_1 m_152 m_153 m_384 rfl rfl q_S_sightFrom ⟨Nat.le_of_ble_eq_true rfl, Nat.le_of_ble_eq_true rfl⟩) (zpS0 hP hK hN [.int (zi a), .int (zi v)]) rfl rfl hl.1 rfl (lv_room (Nat.le_of_ble_eq_true rfl)) d_S_sight_11 ⟨Nat.zero_le _, Nat.zero_le _⟩) hS (fun q _ h => h) (fun q h => h) (fun H locs hP hz1 hk1 hS => ?_)
    clear hz1 hk1
    obtain ⟨k0_e_5, k1_e_5, k2_e_5, k3_e_5, hk0_e_5, hk1_e_5, hk2_e_5, hk3_e_5, hP⟩ := hP
    have b_6 : zB 0 2545620 (f_S_sightFrom S a v) := br_S_sightFrom S a v hI (zB.w g_4.1 (by decide) (by decide)) (zB.w hb_v (by decide) (by decide)) 
    refine lv_goto (tgt := 18) hx hb d_S_sight_14 (by decide) ?_
    exact zw_i hx hb hr hlocks hq ⟨k0_e_5, k1_e_5, k2_e_5, k3_e_5, zB.w hk0_e_5 (by decide) (by decide), zB.w hk1_e_5 (by decide) (by decide), zB.w hk2_e_5 (by decide) (by decide), zB.w hk3_e_5 (by decide) (by decide), hP⟩ hS d_S_sight_18
def f_S_need (S : Nat → Int → Int) (a v : Int) : Int := if (f_S_isStation S a) = 0 then (-1) else (f_S_needWith S a v (S 4 a))
set_option maxHeartbeats 4000000 in
set_option maxRecDepth 100000 in
theorem k_S_need (l : Launch) (dC : Nat → ClassId) (dI : Nat → Nat → Nat) (ad : Nat → Nat) (cI : ClassId) (S : Nat → Int → Int) (k0 k1 k2 k3 : Int) (hI : iS S) (a v : Int) (hb_a : zB (-2147483648) 2147483647 a) (hb_v : zB 0 1 v) : Met l y_S_need (Cond.code y_S_need c_S_need 3 (some .int) :: zT) { frames := 3, cells := 0, slots := 0, locals := 73 } (va_Pc ([.ref (ad 0), .int (zi a), .int (zi v)] : List Value) (zWS dC dI ad cI S k0 k1 k2 k3)) (zR (.int (zi (f_S_need S a v)))) 0 0 (fun _ => False) := by
  refine zh (cc := c_S_need) (C := R_S) (by decide) rfl rfl (Nat.le_of_ble_eq_true rfl) ?_
  intro p e s m below meth c ls hx hb hr hlocks hml hown hname hts hl hB
  have hw : ∀ w9 ∈ zT, w9.before ([.ref (ad 0), .int (zi a), .int (zi v)] : List Value).toArray s = true := fun w9 h => hts w9 (List.mem_cons_of_mem _ h)
  obtain ⟨hP, hK, hN⟩ := hB
  obtain ⟨hn0, hn1⟩ := id (iS_s0 hI)
  obtain ⟨hz0, hz1⟩ := id (iS_s6 hI)
  obtain ⟨hl_a, hh_a⟩ := id hb_a
  obtain ⟨hl_v, hh_v⟩ := id hb_v
  generalize hq : f_S_need S a v = r
  unfold f_S_need at hq
  replace hl : lv_has ls 3 [(0, .ref (ad 0)), (1, .int (zi a)), (2, .int (zi v))] := hl
  refine lv_aload_n hx hb d_S_need_0 rfl (lv_at hl 0 rfl) ?_
  refine lv_iload_n hx hb d_S_need_1 rfl (lv_at hl 1 rfl) ?_
  refine zc_n (va_runV (As := [.int (zi a)]) (rest := []) ⟨hx, hb, hml, hown, hts⟩ (k_S_isStation l dC dI ad cI S k0 k1 k2 k3 hI a (zB.w hb_a (by decide) (by decide)) ) (zcV 1 hts m_84 m_1 m_82 m_83 m_374 rfl rfl q_S_isStation ⟨Nat.le_of_ble_eq_true rfl, Nat.le_of_ble_eq_true rfl⟩) (zpS0 hP hK hN [.int (zi a)]) rfl rfl hl.1 rfl (lv_room (Nat.le_of_ble_eq_true rfl)) d_S_need_2 ⟨Nat.zero_le _, Nat.zero_le _⟩) ?_
  refine zr_if_eq (tgt := 23) hx hb (zB.I (bb_S_isStation S a) (by decide) (by decide)) d_S_need_5 (by decide) (fun c_1 => ?_) (fun c_1 => ?_)
  · replace hq := (if_pos c_1).symm.trans hq
    have r_2 : zB 0 0 (f_S_isStation S a) := ⟨(Int.le_of_eq c_1.symm), (Int.le_of_eq c_1)⟩
    refine lv_iconst (v := zi (-1)) hx hb d_S_need_23 rfl ?_
    exact ze_i hx hb hr hlocks hq d_S_need_24
  · replace hq := (if_neg c_1).symm.trans hq
    have r_3 : zB 1 1 (f_S_isStation S a) := ⟨(by have := (bb_S_isStation S a).1; omega), (bb_S_isStation S a).2⟩
    have g_4 := gf_S_isStation hI c_1
    obtain ⟨g_4l, g_4h⟩ := id g_4.1
    have g_4n := g_4.2
    refine lv_aload_n hx hb d_S_need_8 rfl (lv_at hl 0 rfl) ?_
    refine lv_iload_n hx hb d_S_need_9 rfl (lv_at hl 1 rfl) ?_
    refine lv_iload_n hx hb d_S_need_10 rfl (lv_at hl 2 rfl) ?_
    refine lv_aload_n hx hb d_S_need_11 rfl (lv_at hl 0 rfl) ?_
    refine va_get (D := (dC, dI)) (ci := 1) (v := .ref (ad 5)) (C := R_S) (T := T_S) (N := 13) hx hb hw i_S hown hK hP 0 rfl rfl 4 (by decide) (hw _ m_35) (fun _ h9 => h9) rfl d_S_need_12 ?_
    refine lv_iload_n hx hb d_S_need_15 rfl (lv_at hl 1 rfl) ?_
    refine zr_iald hx hb hK hP 5 0 (cA := cI) (n := 60) (g := S 4) rfl rfl (i := a) (by omega) (by omega) (by decide) d_S_need_16 ?_
    refine zc_n (va_runV (As := [.int (zi a), .int (zi v), .int (zi (S 4 a))]) (rest := []) ⟨hx, hb, hml, hown, hts⟩ (k_S_needWith l dC dI ad cI S k0 k1 k2 k3 hI a v (S 4 a) (zB.w g_4.1 (by decide) (by decide)) (zB.w hb_v (by decide) (by decide)) (zB.w (iS_a4 hI a) (by decide) (by decide)) ) (zcV 3 hts m_161 m_1 m_159 m_160 m_385 rfl rfl q_S_needWith ⟨Nat.le_of_ble_eq_true rfl, Nat.le_of_ble_eq_true rfl⟩) (zpS0 hP hK hN [.int (zi a), .int (zi v), .int (zi (S 4 a))]) rfl rfl hl.1 rfl (lv_room (Nat.le_of_ble_eq_true rfl)) d_S_need_17 ⟨Nat.zero_le _, Nat.zero_le _⟩) ?_
    have b_5 : zB 0 82716 (f_S_needWith S a v (S 4 a)) := br_S_needWith S a v (S 4 a) hI (zB.w g_4.1 (by decide) (by decide)) (zB.w hb_v (by decide) (by decide)) (zB.w (iS_a4 hI a) (by decide) (by decide)) 
    refine lv_goto (tgt := 24) hx hb d_S_need_20 (by decide) ?_
    exact ze_i hx hb hr hlocks hq d_S_need_24
def f_S_blind_l (S : Nat → Int → Int) (v : Int) (a : Int) (b : Int) (z : Int) : Nat → Int → Int → Int → Int
  | 0, _, _, _ => 0
  | k + 1, q, w, i => if (S 11 0) < i then (z) else (if i < (S 11 0) then (if (f_S_isBlind S i v) = 0 then (if w = (-1) then (f_S_blind_l S v a b z k q w (i + 1)) else (if q = a then (if b = 0 then (w) else (i - 1)) else (f_S_blind_l S v a b z k (q + 1) (-1) (i + 1)))) else (if w = (-1) then (f_S_blind_l S v a b z k q i (i + 1)) else (f_S_blind_l S v a b z k q w (i + 1)))) else (if w = (-1) then (f_S_blind_l S v a b z k q w (i + 1)) else (if q = a then (if b = 0 then (w) else (i - 1)) else (f_S_blind_l S v a b z k (q + 1) (-1) (i + 1)))))
theorem f_S_blind_l_s (S : Nat → Int → Int) (v : Int) (a : Int) (b : Int) (z : Int) (k : Nat) (q w i : Int) : f_S_blind_l S v a b z (k + 1) q w i = (if (S 11 0) < i then (z) else (if i < (S 11 0) then (if (f_S_isBlind S i v) = 0 then (if w = (-1) then (f_S_blind_l S v a b z k q w (i + 1)) else (if q = a then (if b = 0 then (w) else (i - 1)) else (f_S_blind_l S v a b z k (q + 1) (-1) (i + 1)))) else (if w = (-1) then (f_S_blind_l S v a b z k q i (i + 1)) else (f_S_blind_l S v a b z k q w (i + 1)))) else (if w = (-1) then (f_S_blind_l S v a b z k q w (i + 1)) else (if q = a then (if b = 0 then (w) else (i - 1)) else (f_S_blind_l S v a b z k (q + 1) (-1) (i + 1)))))) := rfl
def f_S_blind (S : Nat → Int → Int) (v a b : Int) : Int := if a < 0 then (-1) else (if (f_S_isWithin b 0 1) = 0 then (-1) else (f_S_blind_l S v a b (-1) 62 0 (-1) 0))
set_option maxHeartbeats 4000000 in
set_option maxRecDepth 100000 in
theorem k_S_blind (l : Launch) (dC : Nat → ClassId) (dI : Nat → Nat → Nat) (ad : Nat → Nat) (cI : ClassId) (S : Nat → Int → Int) (k0 k1 k2 k3 : Int) (hI : iS S) (hj : zJ 13 ad) (hb_k0 : zB (-30000) 30000 k0) (hb_k1 : zB (-30000) 30000 k1) (hb_k2 : zB (-30000) 30000 k2) (hb_k3 : zB (-30000) 30000 k3) (v a b : Int) (hb_v : zB 0 1 v) (hb_a : zB (-2147483648) 2147483647 a) (hb_b : zB (-2147483648) 2147483647 b) : Met l y_S_blind (Cond.code y_S_blind c_S_blind 8 (some .int) :: zT) { frames := 6, cells := 0, slots := 0, locals := 144 } (va_Pc ([.ref (ad 0), .int (zi v), .int (zi a), .int (zi b)] : List Value) (zWS dC dI ad cI S k0 k1 k2 k3)) (zQ (some (.int (zi (f_S_blind S v a b)))) (fun H => ∃ k0 k1 k2 k3 : Int, zB (-30000) 30000 k0 ∧ zB (-30000) 30000 k1 ∧ zB (-30000) 30000 k2 ∧ zB (-30000) 30000 k3 ∧ va_P (dC, dI) classes (wS ad cI S k0 k1 k2 k3) H) (zAS ad)) 0 0 (zAS ad) := by
  refine zh (cc := c_S_blind) (C := R_S) (by decide) rfl rfl (Nat.le_of_ble_eq_true rfl) ?_
  intro p e s m below meth c ls hx hb hr hlocks hml hown hname hts hl hB
  have hw : ∀ w9 ∈ zT, w9.before ([.ref (ad 0), .int (zi v), .int (zi a), .int (zi b)] : List Value).toArray s = true := fun w9 h => hts w9 (List.mem_cons_of_mem _ h)
  obtain ⟨hP, hK, hN⟩ := hB
  obtain ⟨hn0, hn1⟩ := id (iS_s0 hI)
  have hD := zDS hj cI
  have hS : va_S (zAS ad) s.heap s.heap [] := va_S.rf
  obtain ⟨hz0, hz1⟩ := id (iS_s6 hI)
  obtain ⟨hl_v, hh_v⟩ := id hb_v
  obtain ⟨hl_a, hh_a⟩ := id hb_a
  obtain ⟨hl_b, hh_b⟩ := id hb_b
  generalize hq : f_S_blind S v a b = r
  unfold f_S_blind at hq
  replace hl : lv_has ls 8 [(0, .ref (ad 0)), (1, .int (zi v)), (2, .int (zi a)), (3, .int (zi b))] := hl
  refine lv_iload_n hx hb d_S_blind_0 rfl (lv_at hl 2 rfl) ?_
  refine zr_if_lt (tgt := 13) hx hb (zB.I hb_a (by decide) (by decide)) d_S_blind_1 (by decide) (fun c_1 => ?_) (fun c_1 => ?_)
  · replace hq := (if_pos c_1).symm.trans hq
    have r_2 : zB (-2147483648) (-1) a := ⟨hb_a.1, (Int.le_sub_one_of_lt c_1)⟩
    refine lv_iconst (v := zi (-1)) hx hb d_S_blind_13 rfl ?_
    exact zw_i hx hb hr hlocks hq ⟨k0, k1, k2, k3, zB.w hb_k0 (by decide) (by decide), zB.w hb_k1 (by decide) (by decide), zB.w hb_k2 (by decide) (by decide), zB.w hb_k3 (by decide) (by decide), hP⟩ hS d_S_blind_14
  · replace hq := (if_neg c_1).symm.trans hq
    have r_3 : zB 0 2147483647 a := ⟨(Int.not_lt.mp c_1), hb_a.2⟩
    refine lv_iload_n hx hb d_S_blind_4 rfl (lv_at hl 3 rfl) ?_
    refine lv_iconst (v := zi 0) hx hb d_S_blind_5 rfl ?_
    refine lv_iconst (v := zi 1) hx hb d_S_blind_6 rfl ?_
    refine zc_n (va_runS (As := [.int (zi b), .int (zi 0), .int (zi 1)]) (rest := []) ⟨hx, hb, hml, hown, hts⟩ (k_S_isWithin l b 0 1 (zB.w hb_b (by decide) (by decide)) (zB.w (zb_c 0) (by decide) (by decide)) (zB.w (zb_c 1) (by decide) (by decide)) ) (zcS 3 hts m_53 m_1 m_51 m_52 rfl rfl q_S_isWithin ⟨Nat.le_of_ble_eq_true rfl, Nat.le_of_ble_eq_true rfl⟩) (zp0 [.int (zi b), .int (zi 0), .int (zi 1)]) rfl rfl hl.1 rfl (lv_room (Nat.le_of_ble_eq_true rfl)) d_S_blind_7 ⟨Nat.zero_le _, Nat.zero_le _⟩) ?_
    refine zr_if_ne (tgt := 15) hx hb (zB.I (bb_S_isWithin b 0 1) (by decide) (by decide)) d_S_blind_10 (by decide) (fun c_4 => ?_) (fun c_4 => ?_)
    · replace hq := (if_neg c_4).symm.trans hq
      have r_5 : zB 1 1 (f_S_isWithin b 0 1) := ⟨(by have := (bb_S_isWithin b 0 1).1; omega), (bb_S_isWithin b 0 1).2⟩
      have g_6 := gf_S_isWithin c_4
      obtain ⟨g_6l, g_6h⟩ := id g_6
      refine lv_iconst (v := zi 0) hx hb d_S_blind_15 rfl ?_
      refine lv_istore (lv' := [(4, .int (zi 0)), (0, .ref (ad 0)), (1, .int (zi v)), (2, .int (zi a)), (3, .int (zi b))]) hx hb d_S_blind_16 hl (by decide) rfl (fun ls hl => ?_)
      refine lv_iconst (v := zi (-1)) hx hb d_S_blind_18 rfl ?_
      refine lv_istore (lv' := [(5, .int (zi (-1))), (4, .int (zi 0)), (0, .ref (ad 0)), (1, .int (zi v)), (2, .int (zi a)), (3, .int (zi b))]) hx hb d_S_blind_19 hl (by decide) rfl (fun ls hl => ?_)
      refine lv_iconst (v := zi 0) hx hb d_S_blind_21 rfl ?_
      refine lv_istore (lv' := [(6, .int (zi 0)), (5, .int (zi (-1))), (4, .int (zi 0)), (0, .ref (ad 0)), (1, .int (zi v)), (2, .int (zi a)), (3, .int (zi b))]) hx hb d_S_blind_22 hl (by decide) rfl (fun ls hl => ?_)
      have L_l : ∀ (z : Int), (∀ (ls : Array Slot) (H : Heap) (locs : List Loc) (k0 k1 k2 k3 : Int), zB (-30000) 30000 k0 → zB (-30000) 30000 k1 → zB (-30000) 30000 k2 → zB (-30000) 30000 k3 → va_P (dC, dI) classes (wS ad cI S k0 k1 k2 k3) H → va_S (zAS ad) s.heap H locs → z = r → lv_has ls 8 [(0, .ref (ad 0)), (1, .int (zi v)), (2, .int (zi a)), (3, .int (zi b))] → W p l e { frames := 6, cells := 0, slots := 0, locals := 144 } s m ([.ref (ad 0), .int (zi v), .int (zi a), .int (zi b)] : List Value).toArray below meth c H locs 0 0 (MQ below (zQ (some (.int (zi r))) (fun H => ∃ k0 k1 k2 k3 : Int, zB (-30000) 30000 k0 ∧ zB (-30000) 30000 k1 ∧ zB (-30000) 30000 k2 ∧ zB (-30000) 30000 k3 ∧ va_P (dC, dI) classes (wS ad cI S k0 k1 k2 k3) H) (zAS ad)) ([.ref (ad 0), .int (zi v), .int (zi a), .int (zi b)] : List Value).toArray s 0 0 (zAS ad)) (F0 m 117 ls [])) → ∀ (k : Nat) (q w i : Int) (ls : Array Slot) (H : Heap) (locs : List Loc) (k0 k1 k2 k3 : Int), zB (-30000) 30000 k0 → zB (-30000) 30000 k1 → zB (-30000) 30000 k2 → zB (-30000) 30000 k3 → va_P (dC, dI) classes (wS ad cI S k0 k1 k2 k3) H → va_S (zAS ad) s.heap H locs → zB 0 61 q → zB (-1) 60 w → zB 0 61 i → q ≤ i → w < i → i ≤ S 11 0 + 1 → 61 - i < (k : Int) → f_S_blind_l S v a b z k q w i = r → lv_has ls 8 [(0, .ref (ad 0)), (1, .int (zi v)), (2, .int (zi a)), (3, .int (zi b)), (4, .int (zi q)), (5, .int (zi w)), (6, .int (zi i))] → W p l e { frames := 6, cells := 0, slots := 0, locals := 144 } s m ([.ref (ad 0), .int (zi v), .int (zi a), .int (zi b)] : List Value).toArray below meth c H locs 0 0 (MQ below (zQ (some (.int (zi r))) (fun H => ∃ k0 k1 k2 k3 : Int, zB (-30000) 30000 k0 ∧ zB (-30000) 30000 k1 ∧ zB (-30000) 30000 k2 ∧ zB (-30000) 30000 k3 ∧ va_P (dC, dI) classes (wS ad cI S k0 k1 k2 k3) H) (zAS ad)) ([.ref (ad 0), .int (zi v), .int (zi a), .int (zi b)] : List Value).toArray s 0 0 (zAS ad)) (F0 m 24 ls []) := by
        intro z hz k
        induction k with
        | zero =>
          intro q w i ls H locs k0 k1 k2 k3 hk0 hk1 hk2 hk3 hP hS hb_q hb_w hb_i hi_0 hi_1 hi_2 hk hq hl
          exact absurd hk (by have := hb_q.1; have := hb_q.2; have := hb_w.1; have := hb_w.2; have := hb_i.1; have := hb_i.2; omega)
        | succ k ih =>
          intro q w i ls H locs k0 k1 k2 k3 hk0 hk1 hk2 hk3 hP hS hb_q hb_w hb_i hi_0 hi_1 hi_2 hk hq hl
          obtain ⟨hl_q, hh_q⟩ := id hb_q
          obtain ⟨hl_w, hh_w⟩ := id hb_w
          obtain ⟨hl_i, hh_i⟩ := id hb_i
          replace hq := (f_S_blind_l_s S v a b z k q w i).symm.trans hq
          refine lv_iload hx hb d_S_blind_24 (lv_at hl 6 rfl) ?_
          refine lv_aload_n hx hb d_S_blind_26 rfl (lv_at hl 0 rfl) ?_
          refine va_get (D := (dC, dI)) (ci := 1) (v := .int (zi (S 11 0))) (C := R_S) (T := T_S) (N := 13) hx hb hw i_S hown hK hP 0 rfl rfl 7 (by decide) (hw _ m_38) (fun _ h9 => h9) rfl d_S_blind_27 ?_
          refine zr_icmp_gt (tgt := 117) hx hb (zB.I hb_i (by decide) (by decide)) (zB.I (iS_s0 hI) (by decide) (by decide)) d_S_blind_30 (by decide) (fun c_7 => ?_) (fun c_7 => ?_)
          · replace hq := (if_pos c_7).symm.trans hq
            exact hz ls _ _ k0 k1 k2 k3 (zB.w hk0 (by decide) (by decide)) (zB.w hk1 (by decide) (by decide)) (zB.w hk2 (by decide) (by decide)) (zB.w hk3 (by decide) (by decide)) hP hS hq (lv_sub hl [0, 1, 2, 3] rfl)
          · replace hq := (if_neg c_7).symm.trans hq
            refine lv_iload hx hb d_S_blind_33 (lv_at hl 6 rfl) ?_
            refine lv_aload_n hx hb d_S_blind_35 rfl (lv_at hl 0 rfl) ?_
            refine va_get (D := (dC, dI)) (ci := 1) (v := .int (zi (S 11 0))) (C := R_S) (T := T_S) (N := 13) hx hb hw i_S hown hK hP 0 rfl rfl 7 (by decide) (hw _ m_38) (fun _ h9 => h9) rfl d_S_blind_36 ?_
            refine zr_icmp_ge (tgt := 56) hx hb (zB.I hb_i (by decide) (by decide)) (zB.I (iS_s0 hI) (by decide) (by decide)) d_S_blind_39 (by decide) (fun c_8 => ?_) (fun c_8 => ?_)
            · replace hq := (if_neg c_8).symm.trans hq
              refine lv_iconst (v := zi 0) hx hb d_S_blind_56 rfl ?_
              refine lv_istore (lv' := [(7, .int (zi 0)), (0, .ref (ad 0)), (1, .int (zi v)), (2, .int (zi a)), (3, .int (zi b)), (4, .int (zi q)), (5, .int (zi w)), (6, .int (zi i))]) hx hb d_S_blind_57 hl (by decide) rfl (fun ls hl => ?_)
              refine lv_iload hx hb d_S_blind_59 (lv_at hl 0 rfl) ?_
              refine zr_if_eq (tgt := 74) hx hb (zB.I (zb_c 0) (by decide) (by decide)) d_S_blind_61 (by decide) (fun _ => ?_) (fun c => absurd (by decide : (0 : Int) = 0) c)
              refine lv_iload hx hb d_S_blind_74 (lv_at hl 0 rfl) ?_
              refine zr_if_ne (tgt := 111) hx hb (zB.I (zb_c 0) (by decide) (by decide)) d_S_blind_76 (by decide) (fun c => absurd (by decide : (0 : Int) = 0) c) (fun _ => ?_)
              refine lv_iload hx hb d_S_blind_79 (lv_at hl 6 rfl) ?_
              refine lv_iconst (v := zi (-1)) hx hb d_S_blind_81 rfl ?_
              refine zr_icmp_eq (tgt := 111) hx hb (zB.I hb_w (by decide) (by decide)) (zB.I (zb_c (-1)) (by decide) (by decide)) d_S_blind_82 (by decide) (fun c_9 => ?_) (fun c_9 => ?_)
              · replace hq := (if_pos c_9).symm.trans hq
                have r_10 : zB (-1) (-1) w := ⟨(Int.le_of_eq c_9.symm), (Int.le_of_eq c_9)⟩
                have b_11 : zB 1 62 (i + 1) := zB.w (zb_add hb_i (zb_c 1)) (by decide) (by decide)
                refine lv_iinc (v := zi (i + 1)) (lv' := [(6, .int (zi (i + 1))), (7, .int (zi 0)), (0, .ref (ad 0)), (1, .int (zi v)), (2, .int (zi a)), (3, .int (zi b)), (4, .int (zi q)), (5, .int (zi w))]) hx hb d_S_blind_111 hl (k := 7) rfl (zi_add _ _) (by decide) rfl (fun ls hl => ?_)
                refine lv_goto (tgt := 24) hx hb d_S_blind_114 (by decide) ?_
                exact ih q w (i + 1) ls _ _ k0 k1 k2 k3 (zB.w hk0 (by decide) (by decide)) (zB.w hk1 (by decide) (by decide)) (zB.w hk2 (by decide) (by decide)) (zB.w hk3 (by decide) (by decide)) hP hS (zB.w hb_q (by decide) (by decide)) (zB.w r_10 (by decide) (by decide)) ⟨by have h9 := b_11.1; have h8 := b_11.2; omega, by have h9 := b_11.1; have h8 := b_11.2; omega⟩ (by omega) (by omega) (by omega) (by omega) hq (lv_sub hl [2, 3, 4, 5, 6, 7, 0] rfl)
              · replace hq := (if_neg c_9).symm.trans hq
                have r_12 : zB 0 60 w := ⟨(by have := hb_w.1; omega), hb_w.2⟩
                refine lv_iload hx hb d_S_blind_85 (lv_at hl 5 rfl) ?_
                refine lv_iload_n hx hb d_S_blind_87 rfl (lv_at hl 3 rfl) ?_
                refine zr_icmp_ne (tgt := 105) hx hb (zB.I hb_q (by decide) (by decide)) (zB.I r_3 (by decide) (by decide)) d_S_blind_88 (by decide) (fun c_13 => ?_) (fun c_13 => ?_)
                · replace hq := (if_neg c_13).symm.trans hq
                  have b_14 : zB 1 62 (q + 1) := zB.w (zb_add hb_q (zb_c 1)) (by decide) (by decide)
                  refine lv_iinc (v := zi (q + 1)) (lv' := [(4, .int (zi (q + 1))), (7, .int (zi 0)), (0, .ref (ad 0)), (1, .int (zi v)), (2, .int (zi a)), (3, .int (zi b)), (5, .int (zi w)), (6, .int (zi i))]) hx hb d_S_blind_105 hl (k := 5) rfl (zi_add _ _) (by decide) rfl (fun ls hl => ?_)
                  refine lv_iconst (v := zi (-1)) hx hb d_S_blind_108 rfl ?_
                  refine lv_istore (lv' := [(5, .int (zi (-1))), (4, .int (zi (q + 1))), (7, .int (zi 0)), (0, .ref (ad 0)), (1, .int (zi v)), (2, .int (zi a)), (3, .int (zi b)), (6, .int (zi i))]) hx hb d_S_blind_109 hl (by decide) rfl (fun ls hl => ?_)
                  have b_15 : zB 1 62 (i + 1) := zB.w (zb_add hb_i (zb_c 1)) (by decide) (by decide)
                  refine lv_iinc (v := zi (i + 1)) (lv' := [(6, .int (zi (i + 1))), (5, .int (zi (-1))), (4, .int (zi (q + 1))), (7, .int (zi 0)), (0, .ref (ad 0)), (1, .int (zi v)), (2, .int (zi a)), (3, .int (zi b))]) hx hb d_S_blind_111 hl (k := 7) rfl (zi_add _ _) (by decide) rfl (fun ls hl => ?_)
                  refine lv_goto (tgt := 24) hx hb d_S_blind_114 (by decide) ?_
                  exact ih (q + 1) (-1) (i + 1) ls _ _ k0 k1 k2 k3 (zB.w hk0 (by decide) (by decide)) (zB.w hk1 (by decide) (by decide)) (zB.w hk2 (by decide) (by decide)) (zB.w hk3 (by decide) (by decide)) hP hS ⟨by have h9 := b_14.1; have h8 := b_14.2; omega, by have h9 := b_14.1; have h8 := b_14.2; omega⟩ (zB.w (zb_c (-1)) (by decide) (by decide)) ⟨by have h9 := b_15.1; have h8 := b_15.2; omega, by have h9 := b_15.1; have h8 := b_15.2; omega⟩ (by omega) (by omega) (by omega) (by omega) hq (lv_sub hl [4, 5, 6, 7, 2, 1, 0] rfl)
                · replace hq := (if_pos c_13).symm.trans hq
                  refine lv_iload_n hx hb d_S_blind_91 rfl (lv_at hl 4 rfl) ?_
                  refine zr_if_ne (tgt := 100) hx hb (zB.I g_6 (by decide) (by decide)) d_S_blind_92 (by decide) (fun c_16 => ?_) (fun c_16 => ?_)
                  · replace hq := (if_neg c_16).symm.trans hq
                    have r_17 : zB 1 1 b := ⟨(by have := g_6.1; omega), g_6.2⟩
                    refine lv_iload hx hb d_S_blind_100 (lv_at hl 7 rfl) ?_
                    refine lv_iconst (v := zi 1) hx hb d_S_blind_102 rfl ?_
                    have b_18 : zB (-1) 60 (i - 1) := zB.w (zb_sub hb_i (zb_c 1)) (by decide) (by decide)
                    refine zr_isub hx hb d_S_blind_103 ?_
                    exact zw_i hx hb hr hlocks hq ⟨k0, k1, k2, k3, zB.w hk0 (by decide) (by decide), zB.w hk1 (by decide) (by decide), zB.w hk2 (by decide) (by decide), zB.w hk3 (by decide) (by decide), hP⟩ hS d_S_blind_104
                  · replace hq := (if_pos c_16).symm.trans hq
                    have r_19 : zB 0 0 b := ⟨(Int.le_of_eq c_16.symm), (Int.le_of_eq c_16)⟩
                    refine lv_iload hx hb d_S_blind_95 (lv_at hl 6 rfl) ?_
                    refine lv_goto (tgt := 104) hx hb d_S_blind_97 (by decide) ?_
                    exact zw_i hx hb hr hlocks hq ⟨k0, k1, k2, k3, zB.w hk0 (by decide) (by decide), zB.w hk1 (by decide) (by decide), zB.w hk2 (by decide) (by decide), zB.w hk3 (by decide) (by decide), hP⟩ hS d_S_blind_104
            · replace hq := (if_pos c_8).symm.trans hq
              refine lv_aload_n hx hb d_S_blind_42 rfl (lv_at hl 0 rfl) ?_
              refine lv_iload hx hb d_S_blind_43 (lv_at hl 6 rfl) ?_
              refine lv_iload_n hx hb d_S_blind_45 rfl (lv_at hl 1 rfl) ?_
              refine zc_w (va_runV (As := [.int (zi i), .int (zi v)]) (rest := []) ⟨hx, hb, hml, hown, hts⟩ (k_S_isBlind l dC dI ad cI S k0 k1 k2 k3 hI hj (zB.w hk0 (by decide) (by decide)) (zB.w hk1 (by decide) (by decide)) (zB.w hk2 (by decide) (by decide)) (zB.w hk3 (by decide) (by decide)) i v ⟨by omega, by omega⟩ (zB.w hb_v (by decide) (by decide)) (by omega)) (zcV 2 hts m_180 m_1 m_178 m_179 m_387 rfl rfl q_S_isBlind ⟨Nat.le_of_ble_eq_true rfl, Nat.le_of_ble_eq_true rfl⟩) (zpS0 hP hK hN [.int (zi i), .int (zi v)]) rfl rfl hl.1 rfl (lv_room (Nat.le_of_ble_eq_true rfl)) d_S_blind_46 ⟨Nat.zero_le _, Nat.zero_le _⟩) hS (fun q _ h => h) (fun q h => h) (fun H locs hP hz1 hk1 hS => ?_)
              clear hz1 hk1
              obtain ⟨k0_e_20, k1_e_20, k2_e_20, k3_e_20, hk0_e_20, hk1_e_20, hk2_e_20, hk3_e_20, hP⟩ := hP
              refine zr_if_eq (tgt := 56) hx hb (zB.I (bb_S_isBlind S i v) (by decide) (by decide)) d_S_blind_49 (by decide) (fun c_21 => ?_) (fun c_21 => ?_)
              · replace hq := (if_pos c_21).symm.trans hq
                have r_22 : zB 0 0 (f_S_isBlind S i v) := ⟨(Int.le_of_eq c_21.symm), (Int.le_of_eq c_21)⟩
                refine lv_iconst (v := zi 0) hx hb d_S_blind_56 rfl ?_
                refine lv_istore (lv' := [(7, .int (zi 0)), (0, .ref (ad 0)), (1, .int (zi v)), (2, .int (zi a)), (3, .int (zi b)), (4, .int (zi q)), (5, .int (zi w)), (6, .int (zi i))]) hx hb d_S_blind_57 hl (by decide) rfl (fun ls hl => ?_)
                refine lv_iload hx hb d_S_blind_59 (lv_at hl 0 rfl) ?_
                refine zr_if_eq (tgt := 74) hx hb (zB.I (zb_c 0) (by decide) (by decide)) d_S_blind_61 (by decide) (fun _ => ?_) (fun c => absurd (by decide : (0 : Int) = 0) c)
                refine lv_iload hx hb d_S_blind_74 (lv_at hl 0 rfl) ?_
                refine zr_if_ne (tgt := 111) hx hb (zB.I (zb_c 0) (by decide) (by decide)) d_S_blind_76 (by decide) (fun c => absurd (by decide : (0 : Int) = 0) c) (fun _ => ?_)
                refine lv_iload hx hb d_S_blind_79 (lv_at hl 6 rfl) ?_
                refine lv_iconst (v := zi (-1)) hx hb d_S_blind_81 rfl ?_
                refine zr_icmp_eq (tgt := 111) hx hb (zB.I hb_w (by decide) (by decide)) (zB.I (zb_c (-1)) (by decide) (by decide)) d_S_blind_82 (by decide) (fun c_23 => ?_) (fun c_23 => ?_)
                · replace hq := (if_pos c_23).symm.trans hq
                  have r_24 : zB (-1) (-1) w := ⟨(Int.le_of_eq c_23.symm), (Int.le_of_eq c_23)⟩
                  have b_25 : zB 1 62 (i + 1) := zB.w (zb_add hb_i (zb_c 1)) (by decide) (by decide)
                  refine lv_iinc (v := zi (i + 1)) (lv' := [(6, .int (zi (i + 1))), (7, .int (zi 0)), (0, .ref (ad 0)), (1, .int (zi v)), (2, .int (zi a)), (3, .int (zi b)), (4, .int (zi q)), (5, .int (zi w))]) hx hb d_S_blind_111 hl (k := 7) rfl (zi_add _ _) (by decide) rfl (fun ls hl => ?_)
                  refine lv_goto (tgt := 24) hx hb d_S_blind_114 (by decide) ?_
                  exact ih q w (i + 1) ls _ _ k0_e_20 k1_e_20 k2_e_20 k3_e_20 (zB.w hk0_e_20 (by decide) (by decide)) (zB.w hk1_e_20 (by decide) (by decide)) (zB.w hk2_e_20 (by decide) (by decide)) (zB.w hk3_e_20 (by decide) (by decide)) hP hS (zB.w hb_q (by decide) (by decide)) (zB.w r_24 (by decide) (by decide)) ⟨by have h9 := b_25.1; have h8 := b_25.2; omega, by have h9 := b_25.1; have h8 := b_25.2; omega⟩ (by omega) (by omega) (by omega) (by omega) hq (lv_sub hl [2, 3, 4, 5, 6, 7, 0] rfl)
                · replace hq := (if_neg c_23).symm.trans hq
                  have r_26 : zB 0 60 w := ⟨(by have := hb_w.1; omega), hb_w.2⟩
                  refine lv_iload hx hb d_S_blind_85 (lv_at hl 5 rfl) ?_
                  refine lv_iload_n hx hb d_S_blind_87 rfl (lv_at hl 3 rfl) ?_
                  refine zr_icmp_ne (tgt := 105) hx hb (zB.I hb_q (by decide) (by decide)) (zB.I r_3 (by decide) (by decide)) d_S_blind_88 (by decide) (fun c_27 => ?_) (fun c_27 => ?_)
                  · replace hq := (if_neg c_27).symm.trans hq
                    have b_28 : zB 1 62 (q + 1) := zB.w (zb_add hb_q (zb_c 1)) (by decide) (by decide)
                    refine lv_iinc (v := zi (q + 1)) (lv' := [(4, .int (zi (q + 1))), (7, .int (zi 0)), (0, .ref (ad 0)), (1, .int (zi v)), (2, .int (zi a)), (3, .int (zi b)), (5, .int (zi w)), (6, .int (zi i))]) hx hb d_S_blind_105 hl (k := 5) rfl (zi_add _ _) (by decide) rfl (fun ls hl => ?_)
                    refine lv_iconst (v := zi (-1)) hx hb d_S_blind_108 rfl ?_
                    refine lv_istore (lv' := [(5, .int (zi (-1))), (4, .int (zi (q + 1))), (7, .int (zi 0)), (0, .ref (ad 0)), (1, .int (zi v)), (2, .int (zi a)), (3, .int (zi b)), (6, .int (zi i))]) hx hb d_S_blind_109 hl (by decide) rfl (fun ls hl => ?_)
                    have b_29 : zB 1 62 (i + 1) := zB.w (zb_add hb_i (zb_c 1)) (by decide) (by decide)
                    refine lv_iinc (v := zi (i + 1)) (lv' := [(6, .int (zi (i + 1))), (5, .int (zi (-1))), (4, .int (zi (q + 1))), (7, .int (zi 0)), (0, .ref (ad 0)), (1, .int (zi v)), (2, .int (zi a)), (3, .int (zi b))]) hx hb d_S_blind_111 hl (k := 7) rfl (zi_add _ _) (by decide) rfl (fun ls hl => ?_)
                    refine lv_goto (tgt := 24) hx hb d_S_blind_114 (by decide) ?_
                    exact ih (q + 1) (-1) (i + 1) ls _ _ k0_e_20 k1_e_20 k2_e_20 k3_e_20 (zB.w hk0_e_20 (by decide) (by decide)) (zB.w hk1_e_20 (by decide) (by decide)) (zB.w hk2_e_20 (by decide) (by decide)) (zB.w hk3_e_20 (by decide) (by decide)) hP hS ⟨by have h9 := b_28.1; have h8 := b_28.2; omega, by have h9 := b_28.1; have h8 := b_28.2; omega⟩ (zB.w (zb_c (-1)) (by decide) (by decide)) ⟨by have h9 := b_29.1; have h8 := b_29.2; omega, by have h9 := b_29.1; have h8 := b_29.2; omega⟩ (by omega) (by omega) (by omega) (by omega) hq (lv_sub hl [4, 5, 6, 7, 2, 1, 0] rfl)
                  · replace hq := (if_pos c_27).symm.trans hq
                    refine lv_iload_n hx hb d_S_blind_91 rfl (lv_at hl 4 rfl) ?_
                    refine zr_if_ne (tgt := 100) hx hb (zB.I g_6 (by decide) (by decide)) d_S_blind_92 (by decide) (fun c_30 => ?_) (fun c_30 => ?_)
                    · replace hq := (if_neg c_30).symm.trans hq
                      have r_31 : zB 1 1 b := ⟨(by have := g_6.1; omega), g_6.2⟩
                      refine lv_iload hx hb d_S_blind_100 (lv_at hl 7 rfl) ?_
                      refine lv_iconst (v := zi 1) hx hb d_S_blind_102 rfl ?_
                      have b_32 : zB (-1) 60 (i - 1) := zB.w (zb_sub hb_i (zb_c 1)) (by decide) (by decide)
                      refine zr_isub hx hb d_S_blind_103 ?_
                      exact zw_i hx hb hr hlocks hq ⟨k0_e_20, k1_e_20, k2_e_20, k3_e_20, zB.w hk0_e_20 (by decide) (by decide), zB.w hk1_e_20 (by decide) (by decide), zB.w hk2_e_20 (by decide) (by decide), zB.w hk3_e_20 (by decide) (by decide), hP⟩ hS d_S_blind_104
                    · replace hq := (if_pos c_30).symm.trans hq
                      have r_33 : zB 0 0 b := ⟨(Int.le_of_eq c_30.symm), (Int.le_of_eq c_30)⟩
                      refine lv_iload hx hb d_S_blind_95 (lv_at hl 6 rfl) ?_
                      refine lv_goto (tgt := 104) hx hb d_S_blind_97 (by decide) ?_
                      exact zw_i hx hb hr hlocks hq ⟨k0_e_20, k1_e_20, k2_e_20, k3_e_20, zB.w hk0_e_20 (by decide) (by decide), zB.w hk1_e_20 (by decide) (by decide), zB.w hk2_e_20 (by decide) (by decide), zB.w hk3_e_20 (by decide) (by decide), hP⟩ hS d_S_blind_104
              · replace hq := (if_neg c_21).symm.trans hq
                have r_34 : zB 1 1 (f_S_isBlind S i v) := ⟨(by have := (bb_S_isBlind S i v).1; omega), (bb_S_isBlind S i v).2⟩
                refine lv_iconst (v := zi 1) hx hb d_S_blind_52 rfl ?_
                refine lv_goto (tgt := 57) hx hb d_S_blind_53 (by decide) ?_
                refine lv_istore (lv' := [(7, .int (zi 1)), (0, .ref (ad 0)), (1, .int (zi v)), (2, .int (zi a)), (3, .int (zi b)), (4, .int (zi q)), (5, .int (zi w)), (6, .int (zi i))]) hx hb d_S_blind_57 hl (by decide) rfl (fun ls hl => ?_)
                refine lv_iload hx hb d_S_blind_59 (lv_at hl 0 rfl) ?_
                refine zr_if_eq (tgt := 74) hx hb (zB.I (zb_c 1) (by decide) (by decide)) d_S_blind_61 (by decide) (fun c => absurd c (by decide : ¬ (1 : Int) = 0)) (fun _ => ?_)
                refine lv_iload hx hb d_S_blind_64 (lv_at hl 6 rfl) ?_
                refine lv_iconst (v := zi (-1)) hx hb d_S_blind_66 rfl ?_
                refine zr_icmp_ne (tgt := 74) hx hb (zB.I hb_w (by decide) (by decide)) (zB.I (zb_c (-1)) (by decide) (by decide)) d_S_blind_67 (by decide) (fun c_35 => ?_) (fun c_35 => ?_)
                · replace hq := (if_neg c_35).symm.trans hq
                  have r_36 : zB 0 60 w := ⟨(by have := hb_w.1; omega), hb_w.2⟩
                  refine lv_iload hx hb d_S_blind_74 (lv_at hl 0 rfl) ?_
                  refine zr_if_ne (tgt := 111) hx hb (zB.I (zb_c 1) (by decide) (by decide)) d_S_blind_76 (by decide) (fun _ => ?_) (fun c => absurd c (by decide : ¬ (1 : Int) = 0))
                  have b_37 : zB 1 62 (i + 1) := zB.w (zb_add hb_i (zb_c 1)) (by decide) (by decide)
                  refine lv_iinc (v := zi (i + 1)) (lv' := [(6, .int (zi (i + 1))), (7, .int (zi 1)), (0, .ref (ad 0)), (1, .int (zi v)), (2, .int (zi a)), (3, .int (zi b)), (4, .int (zi q)), (5, .int (zi w))]) hx hb d_S_blind_111 hl (k := 7) rfl (zi_add _ _) (by decide) rfl (fun ls hl => ?_)
                  refine lv_goto (tgt := 24) hx hb d_S_blind_114 (by decide) ?_
                  exact ih q w (i + 1) ls _ _ k0_e_20 k1_e_20 k2_e_20 k3_e_20 (zB.w hk0_e_20 (by decide) (by decide)) (zB.w hk1_e_20 (by decide) (by decide)) (zB.w hk2_e_20 (by decide) (by decide)) (zB.w hk3_e_20 (by decide) (by decide)) hP hS (zB.w hb_q (by decide) (by decide)) (zB.w r_36 (by decide) (by decide)) ⟨by have h9 := b_37.1; have h8 := b_37.2; omega, by have h9 := b_37.1; have h8 := b_37.2; omega⟩ (by omega) (by omega) (by omega) (by omega) hq (lv_sub hl [2, 3, 4, 5, 6, 7, 0] rfl)
                · replace hq := (if_pos c_35).symm.trans hq
                  have r_38 : zB (-1) (-1) w := ⟨(Int.le_of_eq c_35.symm), (Int.le_of_eq c_35)⟩
                  refine lv_iload hx hb d_S_blind_70 (lv_at hl 7 rfl) ?_
                  refine lv_istore (lv' := [(5, .int (zi i)), (7, .int (zi 1)), (0, .ref (ad 0)), (1, .int (zi v)), (2, .int (zi a)), (3, .int (zi b)), (4, .int (zi q)), (6, .int (zi i))]) hx hb d_S_blind_72 hl (by decide) rfl (fun ls hl => ?_)
                  refine lv_iload hx hb d_S_blind_74 (lv_at hl 1 rfl) ?_
                  refine zr_if_ne (tgt := 111) hx hb (zB.I (zb_c 1) (by decide) (by decide)) d_S_blind_76 (by decide) (fun _ => ?_) (fun c => absurd c (by decide : ¬ (1 : Int) = 0))
                  have b_39 : zB 1 62 (i + 1) := zB.w (zb_add hb_i (zb_c 1)) (by decide) (by decide)
                  refine lv_iinc (v := zi (i + 1)) (lv' := [(6, .int (zi (i + 1))), (5, .int (zi i)), (7, .int (zi 1)), (0, .ref (ad 0)), (1, .int (zi v)), (2, .int (zi a)), (3, .int (zi b)), (4, .int (zi q))]) hx hb d_S_blind_111 hl (k := 7) rfl (zi_add _ _) (by decide) rfl (fun ls hl => ?_)
                  refine lv_goto (tgt := 24) hx hb d_S_blind_114 (by decide) ?_
                  exact ih q i (i + 1) ls _ _ k0_e_20 k1_e_20 k2_e_20 k3_e_20 (zB.w hk0_e_20 (by decide) (by decide)) (zB.w hk1_e_20 (by decide) (by decide)) (zB.w hk2_e_20 (by decide) (by decide)) (zB.w hk3_e_20 (by decide) (by decide)) hP hS (zB.w hb_q (by decide) (by decide)) ⟨by have h9 := hb_i.1; have h8 := hb_i.2; omega, by have h9 := hb_i.1; have h8 := hb_i.2; omega⟩ ⟨by have h9 := b_39.1; have h8 := b_39.2; omega, by have h9 := b_39.1; have h8 := b_39.2; omega⟩ (by omega) (by omega) (by omega) (by omega) hq (lv_sub hl [3, 4, 5, 6, 7, 1, 0] rfl)
      refine L_l _ (fun ls H locs k0 k1 k2 k3 hk0 hk1 hk2 hk3 hP hS hq hl => ?_) 62 0 (-1) 0 ls _ _ k0 k1 k2 k3 (zB.w hb_k0 (by decide) (by decide)) (zB.w hb_k1 (by decide) (by decide)) (zB.w hb_k2 (by decide) (by decide)) (zB.w hb_k3 (by decide) (by decide)) hP hS (zB.w (zb_c 0) (by decide) (by decide)) (zB.w (zb_c (-1)) (by decide) (by decide)) (zB.w (zb_c 0) (by decide) (by decide)) (by omega) (by omega) (by omega) (by omega) hq (lv_sub hl [3, 4, 5, 6, 2, 1, 0] rfl)
      refine lv_iconst (v := zi (-1)) hx hb d_S_blind_117 rfl ?_
      exact zw_i hx hb hr hlocks hq ⟨k0, k1, k2, k3, zB.w hk0 (by decide) (by decide), zB.w hk1 (by decide) (by decide), zB.w hk2 (by decide) (by decide), zB.w hk3 (by decide) (by decide), hP⟩ hS d_S_blind_118
    · replace hq := (if_pos c_4).symm.trans hq
      have r_40 : zB 0 0 (f_S_isWithin b 0 1) := ⟨(Int.le_of_eq c_4.symm), (Int.le_of_eq c_4)⟩
      refine lv_iconst (v := zi (-1)) hx hb d_S_blind_13 rfl ?_
      exact zw_i hx hb hr hlocks hq ⟨k0, k1, k2, k3, zB.w hb_k0 (by decide) (by decide), zB.w hb_k1 (by decide) (by decide), zB.w hb_k2 (by decide) (by decide), zB.w hb_k3 (by decide) (by decide), hP⟩ hS d_S_blind_14
def f_S_setBack_n (S : Nat → Int → Int) (a : Int) (b : Int) (w : Int) (i : Int) (z : Int → Int) : Nat → Int → Int → Int
  | 0, _, _ => 0
  | k + 1, u, j => if j < (S 11 0) then (if ((S 3 i) + (f_S_needWith S i 0 (S 4 i))) < (S 3 j) then (z u) else (f_S_setBack_n S a b w i z k (f_S_widened S u i j a b) (j + 1))) else (z u)
theorem f_S_setBack_n_s (S : Nat → Int → Int) (a : Int) (b : Int) (w : Int) (i : Int) (z : Int → Int) (k : Nat) (u j : Int) : f_S_setBack_n S a b w i z (k + 1) u j = (if j < (S 11 0) then (if ((S 3 i) + (f_S_needWith S i 0 (S 4 i))) < (S 3 j) then (z u) else (f_S_setBack_n S a b w i z k (f_S_widened S u i j a b) (j + 1))) else (z u)) := rfl
def f_S_setBack_o (S : Nat → Int → Int) (a : Int) (b : Int) (z : Int → Int) : Nat → Int → Int → Int
  | 0, _, _ => 0
  | k + 1, w, i => if i < a then (f_S_setBack_n S a b w i (fun u => f_S_setBack_o S a b z k u (i + 1)) 61 w (a + 1)) else (z w)
theorem f_S_setBack_o_s (S : Nat → Int → Int) (a : Int) (b : Int) (z : Int → Int) (k : Nat) (w i : Int) : f_S_setBack_o S a b z (k + 1) w i = (if i < a then (f_S_setBack_n S a b w i (fun u => f_S_setBack_o S a b z k u (i + 1)) 61 w (a + 1)) else (z w)) := rfl
def f_S_setBack (S : Nat → Int → Int) (a b : Int) : Int := if (f_S_isStation S a) = 0 then (-1) else (if (f_S_isSide b) = 0 then (-1) else (f_S_setBack_o S a b (fun w => if 1000 < w then (-1) else (w)) 61 0 0))
set_option maxHeartbeats 4000000 in
set_option maxRecDepth 100000 in
theorem k_S_setBack (l : Launch) (dC : Nat → ClassId) (dI : Nat → Nat → Nat) (ad : Nat → Nat) (cI : ClassId) (S : Nat → Int → Int) (k0 k1 k2 k3 : Int) (hI : iS S) (a b : Int) (hb_a : zB (-2147483648) 2147483647 a) (hb_b : zB (-2147483648) 2147483647 b) : Met l y_S_setBack (Cond.code y_S_setBack c_S_setBack 7 (some .int) :: zT) { frames := 3, cells := 0, slots := 0, locals := 75 } (va_Pc ([.ref (ad 0), .int (zi a), .int (zi b)] : List Value) (zWS dC dI ad cI S k0 k1 k2 k3)) (zR (.int (zi (f_S_setBack S a b)))) 0 0 (fun _ => False) := by
  refine zh (cc := c_S_setBack) (C := R_S) (by decide) rfl rfl (Nat.le_of_ble_eq_true rfl) ?_
  intro p e s m below meth c ls hx hb hr hlocks hml hown hname hts hl hB
  have hw : ∀ w9 ∈ zT, w9.before ([.ref (ad 0), .int (zi a), .int (zi b)] : List Value).toArray s = true := fun w9 h => hts w9 (List.mem_cons_of_mem _ h)
  obtain ⟨hP, hK, hN⟩ := hB
  obtain ⟨hn0, hn1⟩ := id (iS_s0 hI)
  obtain ⟨hz0, hz1⟩ := id (iS_s6 hI)
  obtain ⟨hl_a, hh_a⟩ := id hb_a
  obtain ⟨hl_b, hh_b⟩ := id hb_b
  generalize hq : f_S_setBack S a b = r
  unfold f_S_setBack at hq
  replace hl : lv_has ls 7 [(0, .ref (ad 0)), (1, .int (zi a)), (2, .int (zi b))] := hl
  refine lv_aload_n hx hb d_S_setBack_0 rfl (lv_at hl 0 rfl) ?_
  refine lv_iload_n hx hb d_S_setBack_1 rfl (lv_at hl 1 rfl) ?_
  refine zc_n (va_runV (As := [.int (zi a)]) (rest := []) ⟨hx, hb, hml, hown, hts⟩ (k_S_isStation l dC dI ad cI S k0 k1 k2 k3 hI a (zB.w hb_a (by decide) (by decide)) ) (zcV 1 hts m_84 m_1 m_82 m_83 m_374 rfl rfl q_S_isStation ⟨Nat.le_of_ble_eq_true rfl, Nat.le_of_ble_eq_true rfl⟩) (zpS0 hP hK hN [.int (zi a)]) rfl rfl hl.1 rfl (lv_room (Nat.le_of_ble_eq_true rfl)) d_S_setBack_2 ⟨Nat.zero_le _, Nat.zero_le _⟩) ?_
  refine zr_if_eq (tgt := 15) hx hb (zB.I (bb_S_isStation S a) (by decide) (by decide)) d_S_setBack_5 (by decide) (fun c_1 => ?_) (fun c_1 => ?_)
  · replace hq := (if_pos c_1).symm.trans hq
    have r_2 : zB 0 0 (f_S_isStation S a) := ⟨(Int.le_of_eq c_1.symm), (Int.le_of_eq c_1)⟩
    refine lv_iconst (v := zi (-1)) hx hb d_S_setBack_15 rfl ?_
    exact ze_i hx hb hr hlocks hq d_S_setBack_16
  · replace hq := (if_neg c_1).symm.trans hq
    have r_3 : zB 1 1 (f_S_isStation S a) := ⟨(by have := (bb_S_isStation S a).1; omega), (bb_S_isStation S a).2⟩
    have g_4 := gf_S_isStation hI c_1
    obtain ⟨g_4l, g_4h⟩ := id g_4.1
    have g_4n := g_4.2
    refine lv_iload_n hx hb d_S_setBack_8 rfl (lv_at hl 2 rfl) ?_
    refine zc_n (va_runS (As := [.int (zi b)]) (rest := []) ⟨hx, hb, hml, hown, hts⟩ (k_S_isSide l b (zB.w hb_b (by decide) (by decide)) ) (zcS 1 hts m_87 m_1 m_85 m_86 rfl rfl q_S_isSide ⟨Nat.le_of_ble_eq_true rfl, Nat.le_of_ble_eq_true rfl⟩) (zp0 [.int (zi b)]) rfl rfl hl.1 rfl (lv_room (Nat.le_of_ble_eq_true rfl)) d_S_setBack_9 ⟨Nat.zero_le _, Nat.zero_le _⟩) ?_
    refine zr_if_ne (tgt := 17) hx hb (zB.I (bb_S_isSide b) (by decide) (by decide)) d_S_setBack_12 (by decide) (fun c_5 => ?_) (fun c_5 => ?_)
    · replace hq := (if_neg c_5).symm.trans hq
      have r_6 : zB 1 1 (f_S_isSide b) := ⟨(by have := (bb_S_isSide b).1; omega), (bb_S_isSide b).2⟩
      have g_7 := gf_S_isSide c_5
      obtain ⟨g_7l, g_7h⟩ := id g_7
      refine lv_iconst (v := zi 0) hx hb d_S_setBack_17 rfl ?_
      refine lv_istore_n (lv' := [(3, .int (zi 0)), (0, .ref (ad 0)), (1, .int (zi a)), (2, .int (zi b))]) hx hb d_S_setBack_18 rfl hl (by decide) rfl (fun ls hl => ?_)
      refine lv_iconst (v := zi 0) hx hb d_S_setBack_19 rfl ?_
      refine lv_istore (lv' := [(4, .int (zi 0)), (3, .int (zi 0)), (0, .ref (ad 0)), (1, .int (zi a)), (2, .int (zi b))]) hx hb d_S_setBack_20 hl (by decide) rfl (fun ls hl => ?_)
      have L_o : ∀ (z : Int → Int), (∀ (w : Int), zB 0 1001 w → ∀ (ls : Array Slot), z w = r → lv_has ls 7 [(0, .ref (ad 0)), (1, .int (zi a)), (2, .int (zi b)), (3, .int (zi w))] → W p l e { frames := 3, cells := 0, slots := 0, locals := 75 } s m ([.ref (ad 0), .int (zi a), .int (zi b)] : List Value).toArray below meth c s.heap [] 0 0 (MQ below (zR (.int (zi r))) ([.ref (ad 0), .int (zi a), .int (zi b)] : List Value).toArray s 0 0 (fun _ => False)) (F0 m 102 ls [])) → ∀ (k : Nat) (w i : Int) (ls : Array Slot), zB 0 1001 w → zB 0 59 i → 60 - i < (k : Int) → f_S_setBack_o S a b z k w i = r → lv_has ls 7 [(0, .ref (ad 0)), (1, .int (zi a)), (2, .int (zi b)), (3, .int (zi w)), (4, .int (zi i))] → W p l e { frames := 3, cells := 0, slots := 0, locals := 75 } s m ([.ref (ad 0), .int (zi a), .int (zi b)] : List Value).toArray below meth c s.heap [] 0 0 (MQ below (zR (.int (zi r))) ([.ref (ad 0), .int (zi a), .int (zi b)] : List Value).toArray s 0 0 (fun _ => False)) (F0 m 22 ls []) := by
        intro z hz k
        induction k with
        | zero =>
          intro w i ls hb_w hb_i  hk hq hl
          exact absurd hk (by have := hb_w.1; have := hb_w.2; have := hb_i.1; have := hb_i.2; omega)
        | succ k ih =>
          intro w i ls hb_w hb_i  hk hq hl
          obtain ⟨hl_w, hh_w⟩ := id hb_w
          obtain ⟨hl_i, hh_i⟩ := id hb_i
          replace hq := (f_S_setBack_o_s S a b z k w i).symm.trans hq
          refine lv_iload hx hb d_S_setBack_22 (lv_at hl 4 rfl) ?_
          refine lv_iload_n hx hb d_S_setBack_24 rfl (lv_at hl 1 rfl) ?_
          refine zr_icmp_ge (tgt := 102) hx hb (zB.I hb_i (by decide) (by decide)) (zB.I g_4.1 (by decide) (by decide)) d_S_setBack_25 (by decide) (fun c_8 => ?_) (fun c_8 => ?_)
          · replace hq := (if_neg c_8).symm.trans hq
            exact hz w (zB.w hb_w (by decide) (by decide)) ls hq (lv_sub hl [0, 1, 2, 3] rfl)
          · replace hq := (if_pos c_8).symm.trans hq
            refine lv_aload_n hx hb d_S_setBack_28 rfl (lv_at hl 0 rfl) ?_
            refine va_get (D := (dC, dI)) (ci := 1) (v := .ref (ad 4)) (C := R_S) (T := T_S) (N := 13) hx hb hw i_S hown hK hP 0 rfl rfl 3 (by decide) (hw _ m_34) (fun _ h9 => h9) rfl d_S_setBack_29 ?_
            refine lv_iload hx hb d_S_setBack_32 (lv_at hl 4 rfl) ?_
            refine zr_iald hx hb hK hP 4 0 (cA := cI) (n := 60) (g := S 3) rfl rfl (i := i) (by omega) (by omega) (by decide) d_S_setBack_34 ?_
            refine lv_aload_n hx hb d_S_setBack_35 rfl (lv_at hl 0 rfl) ?_
            refine lv_iload hx hb d_S_setBack_36 (lv_at hl 4 rfl) ?_
            refine lv_iconst (v := zi 0) hx hb d_S_setBack_38 rfl ?_
            refine lv_aload_n hx hb d_S_setBack_39 rfl (lv_at hl 0 rfl) ?_
            refine va_get (D := (dC, dI)) (ci := 1) (v := .ref (ad 5)) (C := R_S) (T := T_S) (N := 13) hx hb hw i_S hown hK hP 0 rfl rfl 4 (by decide) (hw _ m_35) (fun _ h9 => h9) rfl d_S_setBack_40 ?_
            refine lv_iload hx hb d_S_setBack_43 (lv_at hl 4 rfl) ?_
            refine zr_iald hx hb hK hP 5 0 (cA := cI) (n := 60) (g := S 4) rfl rfl (i := i) (by omega) (by omega) (by decide) d_S_setBack_45 ?_
            refine zc_n (va_runV (As := [.int (zi i), .int (zi 0), .int (zi (S 4 i))]) (rest := [.int (zi (S 3 i))]) ⟨hx, hb, hml, hown, hts⟩ (k_S_needWith l dC dI ad cI S k0 k1 k2 k3 hI i 0 (S 4 i) (zB.w hb_i (by decide) (by decide)) (zB.w (zb_c 0) (by decide) (by decide)) (zB.w (iS_a4 hI i) (by decide) (by decide)) ) (zcV 3 hts m_161 m_1 m_159 m_160 m_385 rfl rfl q_S_needWith ⟨Nat.le_of_ble_eq_true rfl, Nat.le_of_ble_eq_true rfl⟩) (zpS0 hP hK hN [.int (zi i), .int (zi 0), .int (zi (S 4 i))]) rfl rfl hl.1 rfl (lv_room (Nat.le_of_ble_eq_true rfl)) d_S_setBack_46 ⟨Nat.zero_le _, Nat.zero_le _⟩) ?_
            have b_9 : zB 0 82716 (f_S_needWith S i 0 (S 4 i)) := br_S_needWith S i 0 (S 4 i) hI (zB.w hb_i (by decide) (by decide)) (zB.w (zb_c 0) (by decide) (by decide)) (zB.w (iS_a4 hI i) (by decide) (by decide)) 
            have b_10 : zB 0 2628336 ((S 3 i) + (f_S_needWith S i 0 (S 4 i))) := zB.w (zb_add (iS_a3 hI i) b_9) (by decide) (by decide)
            refine zr_iadd hx hb d_S_setBack_49 ?_
            refine lv_istore (lv' := [(5, .int (zi ((S 3 i) + (f_S_needWith S i 0 (S 4 i))))), (0, .ref (ad 0)), (1, .int (zi a)), (2, .int (zi b)), (3, .int (zi w)), (4, .int (zi i))]) hx hb d_S_setBack_50 hl (by decide) rfl (fun ls hl => ?_)
            refine lv_iload_n hx hb d_S_setBack_52 rfl (lv_at hl 2 rfl) ?_
            refine lv_iconst (v := zi 1) hx hb d_S_setBack_53 rfl ?_
            have b_11 : zB 1 60 (a + 1) := zB.w (zb_add g_4.1 (zb_c 1)) (by decide) (by decide)
            refine zr_iadd hx hb d_S_setBack_54 ?_
            refine lv_istore (lv' := [(6, .int (zi (a + 1))), (5, .int (zi ((S 3 i) + (f_S_needWith S i 0 (S 4 i))))), (0, .ref (ad 0)), (1, .int (zi a)), (2, .int (zi b)), (3, .int (zi w)), (4, .int (zi i))]) hx hb d_S_setBack_55 hl (by decide) rfl (fun ls hl => ?_)
            have L_n : ∀ (z : Int → Int), (∀ (u : Int), zB 0 1001 u → ∀ (ls : Array Slot), z u = r → lv_has ls 7 [(0, .ref (ad 0)), (1, .int (zi a)), (2, .int (zi b)), (3, .int (zi u)), (4, .int (zi i)), (5, .int (zi ((S 3 i) + (f_S_needWith S i 0 (S 4 i)))))] → W p l e { frames := 3, cells := 0, slots := 0, locals := 75 } s m ([.ref (ad 0), .int (zi a), .int (zi b)] : List Value).toArray below meth c s.heap [] 0 0 (MQ below (zR (.int (zi r))) ([.ref (ad 0), .int (zi a), .int (zi b)] : List Value).toArray s 0 0 (fun _ => False)) (F0 m 96 ls [])) → ∀ (k : Nat) (u j : Int) (ls : Array Slot), zB 0 1001 u → zB 1 60 j → 60 - j < (k : Int) → f_S_setBack_n S a b w i z k u j = r → lv_has ls 7 [(0, .ref (ad 0)), (1, .int (zi a)), (2, .int (zi b)), (3, .int (zi u)), (4, .int (zi i)), (5, .int (zi ((S 3 i) + (f_S_needWith S i 0 (S 4 i))))), (6, .int (zi j))] → W p l e { frames := 3, cells := 0, slots := 0, locals := 75 } s m ([.ref (ad 0), .int (zi a), .int (zi b)] : List Value).toArray below meth c s.heap [] 0 0 (MQ below (zR (.int (zi r))) ([.ref (ad 0), .int (zi a), .int (zi b)] : List Value).toArray s 0 0 (fun _ => False)) (F0 m 57 ls []) := by
              intro z hz k
              induction k with
              | zero =>
                intro u j ls hb_u hb_j  hk hq hl
                exact absurd hk (by have := hb_u.1; have := hb_u.2; have := hb_j.1; have := hb_j.2; omega)
              | succ k ih =>
                intro u j ls hb_u hb_j  hk hq hl
                obtain ⟨hl_u, hh_u⟩ := id hb_u
                obtain ⟨hl_j, hh_j⟩ := id hb_j
                replace hq := (f_S_setBack_n_s S a b w i z k u j).symm.trans hq
                refine lv_iload hx hb d_S_setBack_57 (lv_at hl 6 rfl) ?_
                refine lv_aload_n hx hb d_S_setBack_59 rfl (lv_at hl 0 rfl) ?_
                refine va_get (D := (dC, dI)) (ci := 1) (v := .int (zi (S 11 0))) (C := R_S) (T := T_S) (N := 13) hx hb hw i_S hown hK hP 0 rfl rfl 7 (by decide) (hw _ m_38) (fun _ h9 => h9) rfl d_S_setBack_60 ?_
                refine zr_icmp_ge (tgt := 96) hx hb (zB.I hb_j (by decide) (by decide)) (zB.I (iS_s0 hI) (by decide) (by decide)) d_S_setBack_63 (by decide) (fun c_12 => ?_) (fun c_12 => ?_)
                · replace hq := (if_neg c_12).symm.trans hq
                  exact hz u (zB.w hb_u (by decide) (by decide)) ls hq (lv_sub hl [0, 1, 2, 3, 4, 5] rfl)
                · replace hq := (if_pos c_12).symm.trans hq
                  refine lv_aload_n hx hb d_S_setBack_66 rfl (lv_at hl 0 rfl) ?_
                  refine va_get (D := (dC, dI)) (ci := 1) (v := .ref (ad 4)) (C := R_S) (T := T_S) (N := 13) hx hb hw i_S hown hK hP 0 rfl rfl 3 (by decide) (hw _ m_34) (fun _ h9 => h9) rfl d_S_setBack_67 ?_
                  refine lv_iload hx hb d_S_setBack_70 (lv_at hl 6 rfl) ?_
                  refine zr_iald hx hb hK hP 4 0 (cA := cI) (n := 60) (g := S 3) rfl rfl (i := j) (by omega) (by omega) (by decide) d_S_setBack_72 ?_
                  refine lv_iload hx hb d_S_setBack_73 (lv_at hl 5 rfl) ?_
                  refine zr_icmp_gt (tgt := 96) hx hb (zB.I (iS_a3 hI j) (by decide) (by decide)) (zB.I b_10 (by decide) (by decide)) d_S_setBack_75 (by decide) (fun c_13 => ?_) (fun c_13 => ?_)
                  · replace hq := (if_pos c_13).symm.trans hq
                    exact hz u (zB.w hb_u (by decide) (by decide)) ls hq (lv_sub hl [0, 1, 2, 3, 4, 5] rfl)
                  · replace hq := (if_neg c_13).symm.trans hq
                    refine lv_aload_n hx hb d_S_setBack_78 rfl (lv_at hl 0 rfl) ?_
                    refine lv_iload_n hx hb d_S_setBack_79 rfl (lv_at hl 3 rfl) ?_
                    refine lv_iload hx hb d_S_setBack_80 (lv_at hl 4 rfl) ?_
                    refine lv_iload hx hb d_S_setBack_82 (lv_at hl 6 rfl) ?_
                    refine lv_iload_n hx hb d_S_setBack_84 rfl (lv_at hl 1 rfl) ?_
                    refine lv_iload_n hx hb d_S_setBack_85 rfl (lv_at hl 2 rfl) ?_
                    refine zc_n (va_runV (As := [.int (zi u), .int (zi i), .int (zi j), .int (zi a), .int (zi b)]) (rest := []) ⟨hx, hb, hml, hown, hts⟩ (k_S_widened l dC dI ad cI S k0 k1 k2 k3 hI u i j a b (zB.w hb_u (by decide) (by decide)) (zB.w hb_i (by decide) (by decide)) ⟨by omega, by omega⟩ (zB.w g_4.1 (by decide) (by decide)) (zB.w g_7 (by decide) (by decide)) ) (zcV 5 hts m_190 m_1 m_188 m_189 m_389 rfl rfl q_S_widened ⟨Nat.le_of_ble_eq_true rfl, Nat.le_of_ble_eq_true rfl⟩) (zpS0 hP hK hN [.int (zi u), .int (zi i), .int (zi j), .int (zi a), .int (zi b)]) rfl rfl hl.1 rfl (lv_room (Nat.le_of_ble_eq_true rfl)) d_S_setBack_86 ⟨Nat.zero_le _, Nat.zero_le _⟩) ?_
                    have b_14 : zB 0 1001 (f_S_widened S u i j a b) := br_S_widened S u i j a b hI (zB.w hb_u (by decide) (by decide)) (zB.w hb_i (by decide) (by decide)) ⟨by omega, by omega⟩ (zB.w g_4.1 (by decide) (by decide)) (zB.w g_7 (by decide) (by decide)) 
                    refine lv_istore_n (lv' := [(3, .int (zi (f_S_widened S u i j a b))), (0, .ref (ad 0)), (1, .int (zi a)), (2, .int (zi b)), (4, .int (zi i)), (5, .int (zi ((S 3 i) + (f_S_needWith S i 0 (S 4 i))))), (6, .int (zi j))]) hx hb d_S_setBack_89 rfl hl (by decide) rfl (fun ls hl => ?_)
                    have b_15 : zB 2 61 (j + 1) := zB.w (zb_add hb_j (zb_c 1)) (by decide) (by decide)
                    refine lv_iinc (v := zi (j + 1)) (lv' := [(6, .int (zi (j + 1))), (3, .int (zi (f_S_widened S u i j a b))), (0, .ref (ad 0)), (1, .int (zi a)), (2, .int (zi b)), (4, .int (zi i)), (5, .int (zi ((S 3 i) + (f_S_needWith S i 0 (S 4 i)))))]) hx hb d_S_setBack_90 hl (k := 6) rfl (zi_add _ _) (by decide) rfl (fun ls hl => ?_)
                    refine lv_goto (tgt := 57) hx hb d_S_setBack_93 (by decide) ?_
                    exact ih (f_S_widened S u i j a b) (j + 1) ls (zB.w b_14 (by decide) (by decide)) ⟨by have h9 := b_15.1; have h8 := b_15.2; omega, by have h9 := b_15.1; have h8 := b_15.2; omega⟩  (by omega) hq (lv_sub hl [2, 3, 4, 1, 5, 6, 0] rfl)
            refine L_n _ (fun u hb_u ls hq hl => ?_) 61 w (a + 1) ls (zB.w hb_w (by decide) (by decide)) (zB.w b_11 (by decide) (by decide))  (by omega) hq (lv_sub hl [2, 3, 4, 5, 6, 1, 0] rfl)
            obtain ⟨hl_u, hh_u⟩ := id hb_u
            have b_16 : zB 1 60 (i + 1) := zB.w (zb_add hb_i (zb_c 1)) (by decide) (by decide)
            refine lv_iinc (v := zi (i + 1)) (lv' := [(4, .int (zi (i + 1))), (0, .ref (ad 0)), (1, .int (zi a)), (2, .int (zi b)), (3, .int (zi u)), (5, .int (zi ((S 3 i) + (f_S_needWith S i 0 (S 4 i)))))]) hx hb d_S_setBack_96 hl (k := 4) rfl (zi_add _ _) (by decide) rfl (fun ls hl => ?_)
            refine lv_goto (tgt := 22) hx hb d_S_setBack_99 (by decide) ?_
            exact ih u (i + 1) ls (zB.w hb_u (by decide) (by decide)) ⟨by have h9 := b_16.1; have h8 := b_16.2; omega, by have h9 := b_16.1; have h8 := b_16.2; omega⟩  (by omega) hq (lv_sub hl [1, 2, 3, 4, 0] rfl)
      refine L_o _ (fun w hb_w ls hq hl => ?_) 61 0 0 ls (zB.w (zb_c 0) (by decide) (by decide)) (zB.w (zb_c 0) (by decide) (by decide))  (by omega) hq (lv_sub hl [2, 3, 4, 1, 0] rfl)
      obtain ⟨hl_w, hh_w⟩ := id hb_w
      refine lv_iload_n hx hb d_S_setBack_102 rfl (lv_at hl 3 rfl) ?_
      refine lv_sipush (v := zi 1000) hx hb d_S_setBack_103 (by decide) ?_
      refine zr_icmp_le (tgt := 113) hx hb (zB.I hb_w (by decide) (by decide)) (zB.I (zb_c 1000) (by decide) (by decide)) d_S_setBack_106 (by decide) (fun c_17 => ?_) (fun c_17 => ?_)
      · replace hq := (if_neg c_17).symm.trans hq
        have r_18 : zB 0 1000 w := ⟨hb_w.1, (Int.not_lt.mp c_17)⟩
        refine lv_iload_n hx hb d_S_setBack_113 rfl (lv_at hl 3 rfl) ?_
        exact ze_i hx hb hr hlocks hq d_S_setBack_114
      · replace hq := (if_pos c_17).symm.trans hq
        have r_19 : zB 1001 1001 w := ⟨(Int.add_one_le_of_lt c_17), hb_w.2⟩
        refine lv_iconst (v := zi (-1)) hx hb d_S_setBack_109 rfl ?_
        refine lv_goto (tgt := 114) hx hb d_S_setBack_110 (by decide) ?_
        exact ze_i hx hb hr hlocks hq d_S_setBack_114
    · replace hq := (if_pos c_5).symm.trans hq
      have r_20 : zB 0 0 (f_S_isSide b) := ⟨(Int.le_of_eq c_5.symm), (Int.le_of_eq c_5)⟩
      refine lv_iconst (v := zi (-1)) hx hb d_S_setBack_15 rfl ?_
      exact ze_i hx hb hr hlocks hq d_S_setBack_16
def f_S_allowed_l (S : Nat → Int → Int) (a : Int) (v : Int) (z : Int) : Nat → Int → Int
  | 0, _ => 0
  | k + 1, x => if 0 < x then (if (f_S_sightFrom S a v) < (f_S_needWith S a v x) then (if (f_S_roadBeyond S a v) < (f_S_needWith S a v x) then (x) else (f_S_allowed_l S a v z k (x + (-5)))) else (x)) else (z)
theorem f_S_allowed_l_s (S : Nat → Int → Int) (a : Int) (v : Int) (z : Int) (k : Nat) (x : Int) : f_S_allowed_l S a v z (k + 1) x = (if 0 < x then (if (f_S_sightFrom S a v) < (f_S_needWith S a v x) then (if (f_S_roadBeyond S a v) < (f_S_needWith S a v x) then (x) else (f_S_allowed_l S a v z k (x + (-5)))) else (x)) else (z)) := rfl
def f_S_allowed (S : Nat → Int → Int) (a v : Int) : Int := if (f_S_isStation S a) = 0 then (-1) else (f_S_allowed_l S a v (0) 136 130)
set_option maxHeartbeats 4000000 in
set_option maxRecDepth 100000 in
theorem k_S_allowed (l : Launch) (dC : Nat → ClassId) (dI : Nat → Nat → Nat) (ad : Nat → Nat) (cI : ClassId) (S : Nat → Int → Int) (k0 k1 k2 k3 : Int) (hI : iS S) (hj : zJ 13 ad) (hb_k0 : zB (-30000) 30000 k0) (hb_k1 : zB (-30000) 30000 k1) (hb_k2 : zB (-30000) 30000 k2) (hb_k3 : zB (-30000) 30000 k3) (a v : Int) (hb_a : zB (-2147483648) 2147483647 a) (hb_v : zB 0 1 v) : Met l y_S_allowed (Cond.code y_S_allowed c_S_allowed 7 (some .int) :: zT) { frames := 5, cells := 0, slots := 0, locals := 121 } (va_Pc ([.ref (ad 0), .int (zi a), .int (zi v)] : List Value) (zWS dC dI ad cI S k0 k1 k2 k3)) (zQ (some (.int (zi (f_S_allowed S a v)))) (fun H => ∃ k0 k1 k2 k3 : Int, zB (-30000) 30000 k0 ∧ zB (-30000) 30000 k1 ∧ zB (-30000) 30000 k2 ∧ zB (-30000) 30000 k3 ∧ va_P (dC, dI) classes (wS ad cI S k0 k1 k2 k3) H) (zAS ad)) 0 0 (zAS ad) := by
  refine zh (cc := c_S_allowed) (C := R_S) (by decide) rfl rfl (Nat.le_of_ble_eq_true rfl) ?_
  intro p e s m below meth c ls hx hb hr hlocks hml hown hname hts hl hB
  have hw : ∀ w9 ∈ zT, w9.before ([.ref (ad 0), .int (zi a), .int (zi v)] : List Value).toArray s = true := fun w9 h => hts w9 (List.mem_cons_of_mem _ h)
  obtain ⟨hP, hK, hN⟩ := hB
  obtain ⟨hn0, hn1⟩ := id (iS_s0 hI)
  have hD := zDS hj cI
  have hS : va_S (zAS ad) s.heap s.heap [] := va_S.rf
  obtain ⟨hz0, hz1⟩ := id (iS_s6 hI)
  obtain ⟨hl_a, hh_a⟩ := id hb_a
  obtain ⟨hl_v, hh_v⟩ := id hb_v
  generalize hq : f_S_allowed S a v = r
  unfold f_S_allowed at hq
  replace hl : lv_has ls 7 [(0, .ref (ad 0)), (1, .int (zi a)), (2, .int (zi v))] := hl
  refine lv_aload_n hx hb d_S_allowed_0 rfl (lv_at hl 0 rfl) ?_
  refine lv_iload_n hx hb d_S_allowed_1 rfl (lv_at hl 1 rfl) ?_
  refine zc_n (va_runV (As := [.int (zi a)]) (rest := []) ⟨hx, hb, hml, hown, hts⟩ (k_S_isStation l dC dI ad cI S k0 k1 k2 k3 hI a (zB.w hb_a (by decide) (by decide)) ) (zcV 1 hts m_84 m_1 m_82 m_83 m_374 rfl rfl q_S_isStation ⟨Nat.le_of_ble_eq_true rfl, Nat.le_of_ble_eq_true rfl⟩) (zpS0 hP hK hN [.int (zi a)]) rfl rfl hl.1 rfl (lv_room (Nat.le_of_ble_eq_true rfl)) d_S_allowed_2 ⟨Nat.zero_le _, Nat.zero_le _⟩) ?_
  refine zr_if_ne (tgt := 10) hx hb (zB.I (bb_S_isStation S a) (by decide) (by decide)) d_S_allowed_5 (by decide) (fun c_1 => ?_) (fun c_1 => ?_)
  · replace hq := (if_neg c_1).symm.trans hq
    have r_2 : zB 1 1 (f_S_isStation S a) := ⟨(by have := (bb_S_isStation S a).1; omega), (bb_S_isStation S a).2⟩
    have g_3 := gf_S_isStation hI c_1
    obtain ⟨g_3l, g_3h⟩ := id g_3.1
    have g_3n := g_3.2
    refine lv_aload_n hx hb d_S_allowed_10 rfl (lv_at hl 0 rfl) ?_
    refine lv_iload_n hx hb d_S_allowed_11 rfl (lv_at hl 1 rfl) ?_
    refine lv_iload_n hx hb d_S_allowed_12 rfl (lv_at hl 2 rfl) ?_
    refine zc_w (va_runV (As := [.int (zi a), .int (zi v)]) (rest := []) ⟨hx, hb, hml, hown, hts⟩ (k_S_sightFrom l dC dI ad cI S k0 k1 k2 k3 hI hj (zB.w hb_k0 (by decide) (by decide)) (zB.w hb_k1 (by decide) (by decide)) (zB.w hb_k2 (by decide) (by decide)) (zB.w hb_k3 (by decide) (by decide)) a v (zB.w g_3.1 (by decide) (by decide)) (zB.w hb_v (by decide) (by decide)) ) (zcV 2 hts m_154 m_1 m_152 m_153 m_384 rfl rfl q_S_sightFrom ⟨Nat.le_of_ble_eq_true rfl, Nat.le_of_ble_eq_true rfl⟩) (zpS0 hP hK hN [.int (zi a), .int (zi v)]) rfl rfl hl.1 rfl (lv_room (Nat.le_of_ble_eq_true rfl)) d_S_allowed_13 ⟨Nat.zero_le _, Nat.zero_le _⟩) hS (fun q _ h => h) (fun q h => h) (fun H locs hP hz1 hk1 hS => ?_)
    clear hz1 hk1
    obtain ⟨k0_e_4, k1_e_4, k2_e_4, k3_e_4, hk0_e_4, hk1_e_4, hk2_e_4, hk3_e_4, hP⟩ := hP
    have b_5 : zB 0 2545620 (f_S_sightFrom S a v) := br_S_sightFrom S a v hI (zB.w g_3.1 (by decide) (by decide)) (zB.w hb_v (by decide) (by decide)) 
    refine lv_istore_n (lv' := [(3, .int (zi (f_S_sightFrom S a v))), (0, .ref (ad 0)), (1, .int (zi a)), (2, .int (zi v))]) hx hb d_S_allowed_16 rfl hl (by decide) rfl (fun ls hl => ?_)
    refine lv_aload_n hx hb d_S_allowed_17 rfl (lv_at hl 1 rfl) ?_
    refine lv_iload_n hx hb d_S_allowed_18 rfl (lv_at hl 2 rfl) ?_
    refine lv_iload_n hx hb d_S_allowed_19 rfl (lv_at hl 3 rfl) ?_
    refine zc_n (va_runV (As := [.int (zi a), .int (zi v)]) (rest := []) ⟨hx, hb, hml, hown, hts⟩ (k_S_roadBeyond l dC dI ad cI S k0_e_4 k1_e_4 k2_e_4 k3_e_4 hI a v (zB.w g_3.1 (by decide) (by decide)) (zB.w hb_v (by decide) (by decide)) (by omega)) (zcV 2 hts m_183 m_1 m_181 m_182 m_388 rfl rfl q_S_roadBeyond ⟨Nat.le_of_ble_eq_true rfl, Nat.le_of_ble_eq_true rfl⟩) (zpS0 hP hK hN [.int (zi a), .int (zi v)]) rfl rfl hl.1 rfl (lv_room (Nat.le_of_ble_eq_true rfl)) d_S_allowed_20 ⟨Nat.zero_le _, Nat.zero_le _⟩) ?_
    have b_6 : zB (-2545620) 2545620 (f_S_roadBeyond S a v) := br_S_roadBeyond S a v hI (zB.w g_3.1 (by decide) (by decide)) (zB.w hb_v (by decide) (by decide)) (by omega)
    refine lv_istore (lv' := [(4, .int (zi (f_S_roadBeyond S a v))), (3, .int (zi (f_S_sightFrom S a v))), (0, .ref (ad 0)), (1, .int (zi a)), (2, .int (zi v))]) hx hb d_S_allowed_23 hl (by decide) rfl (fun ls hl => ?_)
    refine lv_sipush (v := zi 130) hx hb d_S_allowed_25 (by decide) ?_
    refine lv_istore (lv' := [(5, .int (zi 130)), (4, .int (zi (f_S_roadBeyond S a v))), (3, .int (zi (f_S_sightFrom S a v))), (0, .ref (ad 0)), (1, .int (zi a)), (2, .int (zi v))]) hx hb d_S_allowed_28 hl (by decide) rfl (fun ls hl => ?_)
    have L_l : ∀ (z : Int), (∀ (ls : Array Slot) (H : Heap) (locs : List Loc) (k0 k1 k2 k3 : Int), zB (-30000) 30000 k0 → zB (-30000) 30000 k1 → zB (-30000) 30000 k2 → zB (-30000) 30000 k3 → va_P (dC, dI) classes (wS ad cI S k0 k1 k2 k3) H → va_S (zAS ad) s.heap H locs → z = r → lv_has ls 7 [(0, .ref (ad 0)), (1, .int (zi a)), (2, .int (zi v)), (3, .int (zi (f_S_sightFrom S a v))), (4, .int (zi (f_S_roadBeyond S a v)))] → W p l e { frames := 5, cells := 0, slots := 0, locals := 121 } s m ([.ref (ad 0), .int (zi a), .int (zi v)] : List Value).toArray below meth c H locs 0 0 (MQ below (zQ (some (.int (zi r))) (fun H => ∃ k0 k1 k2 k3 : Int, zB (-30000) 30000 k0 ∧ zB (-30000) 30000 k1 ∧ zB (-30000) 30000 k2 ∧ zB (-30000) 30000 k3 ∧ va_P (dC, dI) classes (wS ad cI S k0 k1 k2 k3) H) (zAS ad)) ([.ref (ad 0), .int (zi a), .int (zi v)] : List Value).toArray s 0 0 (zAS ad)) (F0 m 67 ls [])) → ∀ (k : Nat) (x : Int) (ls : Array Slot) (H : Heap) (locs : List Loc) (k0 k1 k2 k3 : Int), zB (-30000) 30000 k0 → zB (-30000) 30000 k1 → zB (-30000) 30000 k2 → zB (-30000) 30000 k3 → va_P (dC, dI) classes (wS ad cI S k0 k1 k2 k3) H → va_S (zAS ad) s.heap H locs → zB (-4) 130 x → x + 5 < (k : Int) → f_S_allowed_l S a v z k x = r → lv_has ls 7 [(0, .ref (ad 0)), (1, .int (zi a)), (2, .int (zi v)), (3, .int (zi (f_S_sightFrom S a v))), (4, .int (zi (f_S_roadBeyond S a v))), (5, .int (zi x))] → W p l e { frames := 5, cells := 0, slots := 0, locals := 121 } s m ([.ref (ad 0), .int (zi a), .int (zi v)] : List Value).toArray below meth c H locs 0 0 (MQ below (zQ (some (.int (zi r))) (fun H => ∃ k0 k1 k2 k3 : Int, zB (-30000) 30000 k0 ∧ zB (-30000) 30000 k1 ∧ zB (-30000) 30000 k2 ∧ zB (-30000) 30000 k3 ∧ va_P (dC, dI) classes (wS ad cI S k0 k1 k2 k3) H) (zAS ad)) ([.ref (ad 0), .int (zi a), .int (zi v)] : List Value).toArray s 0 0 (zAS ad)) (F0 m 30 ls []) := by
      intro z hz k
      induction k with
      | zero =>
        intro x ls H locs k0 k1 k2 k3 hk0 hk1 hk2 hk3 hP hS hb_x  hk hq hl
        exact absurd hk (by have := hb_x.1; have := hb_x.2; omega)
      | succ k ih =>
        intro x ls H locs k0 k1 k2 k3 hk0 hk1 hk2 hk3 hP hS hb_x  hk hq hl
        obtain ⟨hl_x, hh_x⟩ := id hb_x
        replace hq := (f_S_allowed_l_s S a v z k x).symm.trans hq
        refine lv_iload hx hb d_S_allowed_30 (lv_at hl 5 rfl) ?_
        refine zr_if_le (tgt := 67) hx hb (zB.I hb_x (by decide) (by decide)) d_S_allowed_32 (by decide) (fun c_7 => ?_) (fun c_7 => ?_)
        · replace hq := (if_neg c_7).symm.trans hq
          have r_8 : zB (-4) 0 x := ⟨hb_x.1, (Int.not_lt.mp c_7)⟩
          exact hz ls _ _ k0 k1 k2 k3 (zB.w hk0 (by decide) (by decide)) (zB.w hk1 (by decide) (by decide)) (zB.w hk2 (by decide) (by decide)) (zB.w hk3 (by decide) (by decide)) hP hS hq (lv_sub hl [0, 1, 2, 3, 4] rfl)
        · replace hq := (if_pos c_7).symm.trans hq
          have r_9 : zB 1 130 x := ⟨(Int.add_one_le_of_lt c_7), hb_x.2⟩
          refine lv_aload_n hx hb d_S_allowed_35 rfl (lv_at hl 0 rfl) ?_
          refine lv_iload_n hx hb d_S_allowed_36 rfl (lv_at hl 1 rfl) ?_
          refine lv_iload_n hx hb d_S_allowed_37 rfl (lv_at hl 2 rfl) ?_
          refine lv_iload hx hb d_S_allowed_38 (lv_at hl 5 rfl) ?_
          refine zc_n (va_runV (As := [.int (zi a), .int (zi v), .int (zi x)]) (rest := []) ⟨hx, hb, hml, hown, hts⟩ (k_S_needWith l dC dI ad cI S k0 k1 k2 k3 hI a v x (zB.w g_3.1 (by decide) (by decide)) (zB.w hb_v (by decide) (by decide)) (zB.w r_9 (by decide) (by decide)) ) (zcV 3 hts m_161 m_1 m_159 m_160 m_385 rfl rfl q_S_needWith ⟨Nat.le_of_ble_eq_true rfl, Nat.le_of_ble_eq_true rfl⟩) (zpS0 hP hK hN [.int (zi a), .int (zi v), .int (zi x)]) rfl rfl hl.1 rfl (lv_room (Nat.le_of_ble_eq_true rfl)) d_S_allowed_40 ⟨Nat.zero_le _, Nat.zero_le _⟩) ?_
          have b_10 : zB 0 82716 (f_S_needWith S a v x) := br_S_needWith S a v x hI (zB.w g_3.1 (by decide) (by decide)) (zB.w hb_v (by decide) (by decide)) (zB.w r_9 (by decide) (by decide)) 
          refine lv_istore (lv' := [(6, .int (zi (f_S_needWith S a v x))), (0, .ref (ad 0)), (1, .int (zi a)), (2, .int (zi v)), (3, .int (zi (f_S_sightFrom S a v))), (4, .int (zi (f_S_roadBeyond S a v))), (5, .int (zi x))]) hx hb d_S_allowed_43 hl (by decide) rfl (fun ls hl => ?_)
          refine lv_iload hx hb d_S_allowed_45 (lv_at hl 0 rfl) ?_
          refine lv_iload_n hx hb d_S_allowed_47 rfl (lv_at hl 4 rfl) ?_
          refine zr_icmp_le (tgt := 58) hx hb (zB.I b_10 (by decide) (by decide)) (zB.I b_5 (by decide) (by decide)) d_S_allowed_48 (by decide) (fun c_11 => ?_) (fun c_11 => ?_)
          · replace hq := (if_neg c_11).symm.trans hq
            refine lv_iload hx hb d_S_allowed_58 (lv_at hl 6 rfl) ?_
            exact zw_i hx hb hr hlocks hq ⟨k0, k1, k2, k3, zB.w hk0 (by decide) (by decide), zB.w hk1 (by decide) (by decide), zB.w hk2 (by decide) (by decide), zB.w hk3 (by decide) (by decide), hP⟩ hS d_S_allowed_60
          · replace hq := (if_pos c_11).symm.trans hq
            refine lv_iload hx hb d_S_allowed_51 (lv_at hl 5 rfl) ?_
            refine lv_iload hx hb d_S_allowed_53 (lv_at hl 0 rfl) ?_
            refine zr_icmp_ge (tgt := 61) hx hb (zB.I b_6 (by decide) (by decide)) (zB.I b_10 (by decide) (by decide)) d_S_allowed_55 (by decide) (fun c_12 => ?_) (fun c_12 => ?_)
            · replace hq := (if_neg c_12).symm.trans hq
              have b_13 : zB (-4) 125 (x + (-5)) := zB.w (zb_add r_9 (zb_c (-5))) (by decide) (by decide)
              refine lv_iinc (v := zi (x + (-5))) (lv' := [(5, .int (zi (x + (-5)))), (6, .int (zi (f_S_needWith S a v x))), (0, .ref (ad 0)), (1, .int (zi a)), (2, .int (zi v)), (3, .int (zi (f_S_sightFrom S a v))), (4, .int (zi (f_S_roadBeyond S a v)))]) hx hb d_S_allowed_61 hl (k := 6) rfl (zi_add _ _) (by decide) rfl (fun ls hl => ?_)
              refine lv_goto (tgt := 30) hx hb d_S_allowed_64 (by decide) ?_
              exact ih (x + (-5)) ls _ _ k0 k1 k2 k3 (zB.w hk0 (by decide) (by decide)) (zB.w hk1 (by decide) (by decide)) (zB.w hk2 (by decide) (by decide)) (zB.w hk3 (by decide) (by decide)) hP hS (zB.w b_13 (by decide) (by decide))  (by omega) hq (lv_sub hl [2, 3, 4, 5, 6, 0] rfl)
            · replace hq := (if_pos c_12).symm.trans hq
              refine lv_iload hx hb d_S_allowed_58 (lv_at hl 6 rfl) ?_
              exact zw_i hx hb hr hlocks hq ⟨k0, k1, k2, k3, zB.w hk0 (by decide) (by decide), zB.w hk1 (by decide) (by decide), zB.w hk2 (by decide) (by decide), zB.w hk3 (by decide) (by decide), hP⟩ hS d_S_allowed_60
    refine L_l _ (fun ls H locs k0 k1 k2 k3 hk0 hk1 hk2 hk3 hP hS hq hl => ?_) 136 130 ls _ _ k0_e_4 k1_e_4 k2_e_4 k3_e_4 (zB.w hk0_e_4 (by decide) (by decide)) (zB.w hk1_e_4 (by decide) (by decide)) (zB.w hk2_e_4 (by decide) (by decide)) (zB.w hk3_e_4 (by decide) (by decide)) hP hS (zB.w (zb_c 130) (by decide) (by decide))  (by omega) hq (lv_sub hl [3, 4, 5, 2, 1, 0] rfl)
    refine lv_iconst (v := zi 0) hx hb d_S_allowed_67 rfl ?_
    exact zw_i hx hb hr hlocks hq ⟨k0, k1, k2, k3, zB.w hk0 (by decide) (by decide), zB.w hk1 (by decide) (by decide), zB.w hk2 (by decide) (by decide), zB.w hk3 (by decide) (by decide), hP⟩ hS d_S_allowed_68
  · replace hq := (if_pos c_1).symm.trans hq
    have r_14 : zB 0 0 (f_S_isStation S a) := ⟨(Int.le_of_eq c_1.symm), (Int.le_of_eq c_1)⟩
    refine lv_iconst (v := zi (-1)) hx hb d_S_allowed_8 rfl ?_
    exact zw_i hx hb hr hlocks hq ⟨k0, k1, k2, k3, zB.w hb_k0 (by decide) (by decide), zB.w hb_k1 (by decide) (by decide), zB.w hb_k2 (by decide) (by decide), zB.w hb_k3 (by decide) (by decide), hP⟩ hS d_S_allowed_9
def f_S_overtake_l (S : Nat → Int → Int) (a : Int) (z : Int → Int) : Nat → Int → Int → Int → Int
  | 0, _, _, _ => 0
  | k + 1, w, t, i => if i < (S 11 0) then (if (f_S_sightFrom S i 0) < a then (f_S_overtake_l S a z k w (-1) (i + 1)) else (if t = (-1) then (f_S_overtake_l S a z k (zmax w ((S 3 i) - (S 3 i))) i (i + 1)) else (f_S_overtake_l S a z k (zmax w ((S 3 i) - (S 3 t))) t (i + 1)))) else (z w)
theorem f_S_overtake_l_s (S : Nat → Int → Int) (a : Int) (z : Int → Int) (k : Nat) (w t i : Int) : f_S_overtake_l S a z (k + 1) w t i = (if i < (S 11 0) then (if (f_S_sightFrom S i 0) < a then (f_S_overtake_l S a z k w (-1) (i + 1)) else (if t = (-1) then (f_S_overtake_l S a z k (zmax w ((S 3 i) - (S 3 i))) i (i + 1)) else (f_S_overtake_l S a z k (zmax w ((S 3 i) - (S 3 t))) t (i + 1)))) else (z w)) := rfl
def f_S_overtake (S : Nat → Int → Int) (a : Int) : Int := if (f_S_isWithin a 1 1000000) = 0 then (-1) else (f_S_overtake_l S a (fun w => w) 61 0 (-1) 0)
set_option maxHeartbeats 4000000 in
set_option maxRecDepth 100000 in
theorem k_S_overtake (l : Launch) (dC : Nat → ClassId) (dI : Nat → Nat → Nat) (ad : Nat → Nat) (cI : ClassId) (S : Nat → Int → Int) (k0 k1 k2 k3 : Int) (hI : iS S) (hj : zJ 13 ad) (hb_k0 : zB (-30000) 30000 k0) (hb_k1 : zB (-30000) 30000 k1) (hb_k2 : zB (-30000) 30000 k2) (hb_k3 : zB (-30000) 30000 k3) (a : Int) (hb_a : zB (-2147483648) 2147483647 a) : Met l y_S_overtake (Cond.code y_S_overtake c_S_overtake 5 (some .int) :: zT) { frames := 5, cells := 0, slots := 0, locals := 121 } (va_Pc ([.ref (ad 0), .int (zi a)] : List Value) (zWS dC dI ad cI S k0 k1 k2 k3)) (zQ (some (.int (zi (f_S_overtake S a)))) (fun H => ∃ k0 k1 k2 k3 : Int, zB (-30000) 30000 k0 ∧ zB (-30000) 30000 k1 ∧ zB (-30000) 30000 k2 ∧ zB (-30000) 30000 k3 ∧ va_P (dC, dI) classes (wS ad cI S k0 k1 k2 k3) H) (zAS ad)) 0 0 (zAS ad) := by
  refine zh (cc := c_S_overtake) (C := R_S) (by decide) rfl rfl (Nat.le_of_ble_eq_true rfl) ?_
  intro p e s m below meth c ls hx hb hr hlocks hml hown hname hts hl hB
  have hw : ∀ w9 ∈ zT, w9.before ([.ref (ad 0), .int (zi a)] : List Value).toArray s = true := fun w9 h => hts w9 (List.mem_cons_of_mem _ h)
  obtain ⟨hP, hK, hN⟩ := hB
  obtain ⟨hn0, hn1⟩ := id (iS_s0 hI)
  have hD := zDS hj cI
  have hS : va_S (zAS ad) s.heap s.heap [] := va_S.rf
  obtain ⟨hz0, hz1⟩ := id (iS_s6 hI)
  obtain ⟨hl_a, hh_a⟩ := id hb_a
  generalize hq : f_S_overtake S a = r
  unfold f_S_overtake at hq
  replace hl : lv_has ls 5 [(0, .ref (ad 0)), (1, .int (zi a))] := hl
  refine lv_iload_n hx hb d_S_overtake_0 rfl (lv_at hl 1 rfl) ?_
  refine lv_iconst (v := zi 1) hx hb d_S_overtake_1 rfl ?_
  refine lv_ldc (v := zi 1000000) hx hb hown (hw _ m_199) d_S_overtake_2 ?_
  refine zc_n (va_runS (As := [.int (zi a), .int (zi 1), .int (zi 1000000)]) (rest := []) ⟨hx, hb, hml, hown, hts⟩ (k_S_isWithin l a 1 1000000 (zB.w hb_a (by decide) (by decide)) (zB.w (zb_c 1) (by decide) (by decide)) (zB.w (zb_c 1000000) (by decide) (by decide)) ) (zcS 3 hts m_53 m_1 m_51 m_52 rfl rfl q_S_isWithin ⟨Nat.le_of_ble_eq_true rfl, Nat.le_of_ble_eq_true rfl⟩) (zp0 [.int (zi a), .int (zi 1), .int (zi 1000000)]) rfl rfl hl.1 rfl (lv_room (Nat.le_of_ble_eq_true rfl)) d_S_overtake_4 ⟨Nat.zero_le _, Nat.zero_le _⟩) ?_
  refine zr_if_ne (tgt := 12) hx hb (zB.I (bb_S_isWithin a 1 1000000) (by decide) (by decide)) d_S_overtake_7 (by decide) (fun c_1 => ?_) (fun c_1 => ?_)
  · replace hq := (if_neg c_1).symm.trans hq
    have r_2 : zB 1 1 (f_S_isWithin a 1 1000000) := ⟨(by have := (bb_S_isWithin a 1 1000000).1; omega), (bb_S_isWithin a 1 1000000).2⟩
    have g_3 := gf_S_isWithin c_1
    obtain ⟨g_3l, g_3h⟩ := id g_3
    refine lv_iconst (v := zi 0) hx hb d_S_overtake_12 rfl ?_
    refine lv_istore_n (lv' := [(2, .int (zi 0)), (0, .ref (ad 0)), (1, .int (zi a))]) hx hb d_S_overtake_13 rfl hl (by decide) rfl (fun ls hl => ?_)
    refine lv_iconst (v := zi (-1)) hx hb d_S_overtake_14 rfl ?_
    refine lv_istore_n (lv' := [(3, .int (zi (-1))), (2, .int (zi 0)), (0, .ref (ad 0)), (1, .int (zi a))]) hx hb d_S_overtake_15 rfl hl (by decide) rfl (fun ls hl => ?_)
    refine lv_iconst (v := zi 0) hx hb d_S_overtake_16 rfl ?_
    refine lv_istore (lv' := [(4, .int (zi 0)), (3, .int (zi (-1))), (2, .int (zi 0)), (0, .ref (ad 0)), (1, .int (zi a))]) hx hb d_S_overtake_17 hl (by decide) rfl (fun ls hl => ?_)
    have L_l : ∀ (z : Int → Int), (∀ (w : Int), zB 0 2545620 w → ∀ (ls : Array Slot) (H : Heap) (locs : List Loc) (k0 k1 k2 k3 : Int), zB (-30000) 30000 k0 → zB (-30000) 30000 k1 → zB (-30000) 30000 k2 → zB (-30000) 30000 k3 → va_P (dC, dI) classes (wS ad cI S k0 k1 k2 k3) H → va_S (zAS ad) s.heap H locs → z w = r → lv_has ls 5 [(0, .ref (ad 0)), (1, .int (zi a)), (2, .int (zi w))] → W p l e { frames := 5, cells := 0, slots := 0, locals := 121 } s m ([.ref (ad 0), .int (zi a)] : List Value).toArray below meth c H locs 0 0 (MQ below (zQ (some (.int (zi r))) (fun H => ∃ k0 k1 k2 k3 : Int, zB (-30000) 30000 k0 ∧ zB (-30000) 30000 k1 ∧ zB (-30000) 30000 k2 ∧ zB (-30000) 30000 k3 ∧ va_P (dC, dI) classes (wS ad cI S k0 k1 k2 k3) H) (zAS ad)) ([.ref (ad 0), .int (zi a)] : List Value).toArray s 0 0 (zAS ad)) (F0 m 81 ls [])) → ∀ (k : Nat) (w t i : Int) (ls : Array Slot) (H : Heap) (locs : List Loc) (k0 k1 k2 k3 : Int), zB (-30000) 30000 k0 → zB (-30000) 30000 k1 → zB (-30000) 30000 k2 → zB (-30000) 30000 k3 → va_P (dC, dI) classes (wS ad cI S k0 k1 k2 k3) H → va_S (zAS ad) s.heap H locs → zB 0 2545620 w → zB (-1) 59 t → zB 0 60 i → i ≤ S 11 0 → 60 - i < (k : Int) → f_S_overtake_l S a z k w t i = r → lv_has ls 5 [(0, .ref (ad 0)), (1, .int (zi a)), (2, .int (zi w)), (3, .int (zi t)), (4, .int (zi i))] → W p l e { frames := 5, cells := 0, slots := 0, locals := 121 } s m ([.ref (ad 0), .int (zi a)] : List Value).toArray below meth c H locs 0 0 (MQ below (zQ (some (.int (zi r))) (fun H => ∃ k0 k1 k2 k3 : Int, zB (-30000) 30000 k0 ∧ zB (-30000) 30000 k1 ∧ zB (-30000) 30000 k2 ∧ zB (-30000) 30000 k3 ∧ va_P (dC, dI) classes (wS ad cI S k0 k1 k2 k3) H) (zAS ad)) ([.ref (ad 0), .int (zi a)] : List Value).toArray s 0 0 (zAS ad)) (F0 m 19 ls []) := by
      intro z hz k
      induction k with
      | zero =>
        intro w t i ls H locs k0 k1 k2 k3 hk0 hk1 hk2 hk3 hP hS hb_w hb_t hb_i hi_0 hk hq hl
        exact absurd hk (by have := hb_w.1; have := hb_w.2; have := hb_t.1; have := hb_t.2; have := hb_i.1; have := hb_i.2; omega)
      | succ k ih =>
        intro w t i ls H locs k0 k1 k2 k3 hk0 hk1 hk2 hk3 hP hS hb_w hb_t hb_i hi_0 hk hq hl
        obtain ⟨hl_w, hh_w⟩ := id hb_w
        obtain ⟨hl_t, hh_t⟩ := id hb_t
        obtain ⟨hl_i, hh_i⟩ := id hb_i
        replace hq := (f_S_overtake_l_s S a z k w t i).symm.trans hq
        refine lv_iload hx hb d_S_overtake_19 (lv_at hl 4 rfl) ?_
        refine lv_aload_n hx hb d_S_overtake_21 rfl (lv_at hl 0 rfl) ?_
        refine va_get (D := (dC, dI)) (ci := 1) (v := .int (zi (S 11 0))) (C := R_S) (T := T_S) (N := 13) hx hb hw i_S hown hK hP 0 rfl rfl 7 (by decide) (hw _ m_38) (fun _ h9 => h9) rfl d_S_overtake_22 ?_
        refine zr_icmp_ge (tgt := 81) hx hb (zB.I hb_i (by decide) (by decide)) (zB.I (iS_s0 hI) (by decide) (by decide)) d_S_overtake_25 (by decide) (fun c_4 => ?_) (fun c_4 => ?_)
        · replace hq := (if_neg c_4).symm.trans hq
          exact hz w (zB.w hb_w (by decide) (by decide)) ls _ _ k0 k1 k2 k3 (zB.w hk0 (by decide) (by decide)) (zB.w hk1 (by decide) (by decide)) (zB.w hk2 (by decide) (by decide)) (zB.w hk3 (by decide) (by decide)) hP hS hq (lv_sub hl [0, 1, 2] rfl)
        · replace hq := (if_pos c_4).symm.trans hq
          refine lv_aload_n hx hb d_S_overtake_28 rfl (lv_at hl 0 rfl) ?_
          refine lv_iload hx hb d_S_overtake_29 (lv_at hl 4 rfl) ?_
          refine lv_iconst (v := zi 0) hx hb d_S_overtake_31 rfl ?_
          refine zc_w (va_runV (As := [.int (zi i), .int (zi 0)]) (rest := []) ⟨hx, hb, hml, hown, hts⟩ (k_S_sightFrom l dC dI ad cI S k0 k1 k2 k3 hI hj (zB.w hk0 (by decide) (by decide)) (zB.w hk1 (by decide) (by decide)) (zB.w hk2 (by decide) (by decide)) (zB.w hk3 (by decide) (by decide)) i 0 ⟨by omega, by omega⟩ (zB.w (zb_c 0) (by decide) (by decide)) ) (zcV 2 hts m_154 m_1 m_152 m_153 m_384 rfl rfl q_S_sightFrom ⟨Nat.le_of_ble_eq_true rfl, Nat.le_of_ble_eq_true rfl⟩) (zpS0 hP hK hN [.int (zi i), .int (zi 0)]) rfl rfl hl.1 rfl (lv_room (Nat.le_of_ble_eq_true rfl)) d_S_overtake_32 ⟨Nat.zero_le _, Nat.zero_le _⟩) hS (fun q _ h => h) (fun q h => h) (fun H locs hP hz1 hk1 hS => ?_)
          clear hz1 hk1
          obtain ⟨k0_e_5, k1_e_5, k2_e_5, k3_e_5, hk0_e_5, hk1_e_5, hk2_e_5, hk3_e_5, hP⟩ := hP
          have b_6 : zB 0 2545620 (f_S_sightFrom S i 0) := br_S_sightFrom S i 0 hI ⟨by omega, by omega⟩ (zB.w (zb_c 0) (by decide) (by decide)) 
          refine lv_iload_n hx hb d_S_overtake_35 rfl (lv_at hl 1 rfl) ?_
          refine zr_icmp_ge (tgt := 44) hx hb (zB.I b_6 (by decide) (by decide)) (zB.I g_3 (by decide) (by decide)) d_S_overtake_36 (by decide) (fun c_7 => ?_) (fun c_7 => ?_)
          · replace hq := (if_neg c_7).symm.trans hq
            refine lv_iload_n hx hb d_S_overtake_44 rfl (lv_at hl 3 rfl) ?_
            refine lv_iconst (v := zi (-1)) hx hb d_S_overtake_45 rfl ?_
            refine zr_icmp_ne (tgt := 54) hx hb (zB.I hb_t (by decide) (by decide)) (zB.I (zb_c (-1)) (by decide) (by decide)) d_S_overtake_46 (by decide) (fun c_8 => ?_) (fun c_8 => ?_)
            · replace hq := (if_neg c_8).symm.trans hq
              have r_9 : zB 0 59 t := ⟨(by have := hb_t.1; omega), hb_t.2⟩
              refine lv_iload_n hx hb d_S_overtake_54 rfl (lv_at hl 3 rfl) ?_
              refine lv_istore_n (lv' := [(3, .int (zi t)), (0, .ref (ad 0)), (1, .int (zi a)), (2, .int (zi w)), (4, .int (zi i))]) hx hb d_S_overtake_55 rfl hl (by decide) rfl (fun ls hl => ?_)
              refine lv_iload_n hx hb d_S_overtake_56 rfl (lv_at hl 3 rfl) ?_
              refine lv_aload_n hx hb d_S_overtake_57 rfl (lv_at hl 1 rfl) ?_
              refine va_get (D := (dC, dI)) (ci := 1) (v := .ref (ad 4)) (C := R_S) (T := T_S) (N := 13) hx hb hw i_S hown hK hP 0 rfl rfl 3 (by decide) (hw _ m_34) (fun _ h9 => h9) rfl d_S_overtake_58 ?_
              refine lv_iload hx hb d_S_overtake_61 (lv_at hl 4 rfl) ?_
              refine zr_iald hx hb hK hP 4 0 (cA := cI) (n := 60) (g := S 3) rfl rfl (i := i) (by omega) (by omega) (by decide) d_S_overtake_63 ?_
              refine lv_aload_n hx hb d_S_overtake_64 rfl (lv_at hl 1 rfl) ?_
              refine va_get (D := (dC, dI)) (ci := 1) (v := .ref (ad 4)) (C := R_S) (T := T_S) (N := 13) hx hb hw i_S hown hK hP 0 rfl rfl 3 (by decide) (hw _ m_34) (fun _ h9 => h9) rfl d_S_overtake_65 ?_
              refine lv_iload_n hx hb d_S_overtake_68 rfl (lv_at hl 0 rfl) ?_
              refine zr_iald hx hb hK hP 4 0 (cA := cI) (n := 60) (g := S 3) rfl rfl (i := t) (by omega) (by omega) (by decide) d_S_overtake_69 ?_
              have b_10 : zB (-2545620) 2545620 ((S 3 i) - (S 3 t)) := zB.w (zb_sub (iS_a3 hI i) (iS_a3 hI t)) (by decide) (by decide)
              refine zr_isub hx hb d_S_overtake_70 ?_
              refine zr_max hx hb (hml.trans hl.1.symm) hown (hw _ m_71) (hw _ m_72) (hw _ m_4) (hw _ m_73) (Nat.le_of_ble_eq_true rfl) (Nat.le_of_ble_eq_true rfl) (Nat.zero_le _) (Nat.zero_le _) (zB.I hb_w (by decide) (by decide)) (zB.I b_10 (by decide) (by decide)) d_S_overtake_71 ?_
              have b_11 : zB 0 2545620 (zmax w ((S 3 i) - (S 3 t))) := zB.w (zb_maxl (lo := 0) (hi := 2545620) hb_w b_10 (by decide) (by decide) (by decide)) (by decide) (by decide)
              obtain ⟨hl_b_11, hh_b_11⟩ := id b_11
              refine lv_istore_n (lv' := [(2, .int (zi (zmax w ((S 3 i) - (S 3 t))))), (3, .int (zi t)), (0, .ref (ad 0)), (1, .int (zi a)), (4, .int (zi i))]) hx hb d_S_overtake_74 rfl hl (by decide) rfl (fun ls hl => ?_)
              have b_12 : zB 1 61 (i + 1) := zB.w (zb_add hb_i (zb_c 1)) (by decide) (by decide)
              refine lv_iinc (v := zi (i + 1)) (lv' := [(4, .int (zi (i + 1))), (2, .int (zi (zmax w ((S 3 i) - (S 3 t))))), (3, .int (zi t)), (0, .ref (ad 0)), (1, .int (zi a))]) hx hb d_S_overtake_75 hl (k := 4) rfl (zi_add _ _) (by decide) rfl (fun ls hl => ?_)
              refine lv_goto (tgt := 19) hx hb d_S_overtake_78 (by decide) ?_
              exact ih (zmax w ((S 3 i) - (S 3 t))) t (i + 1) ls _ _ k0_e_5 k1_e_5 k2_e_5 k3_e_5 (zB.w hk0_e_5 (by decide) (by decide)) (zB.w hk1_e_5 (by decide) (by decide)) (zB.w hk2_e_5 (by decide) (by decide)) (zB.w hk3_e_5 (by decide) (by decide)) hP hS (zB.w b_11 (by decide) (by decide)) (zB.w r_9 (by decide) (by decide)) ⟨by have h9 := b_12.1; have h8 := b_12.2; omega, by have h9 := b_12.1; have h8 := b_12.2; omega⟩ (by omega) (by omega) hq (lv_sub hl [3, 4, 1, 2, 0] rfl)
            · replace hq := (if_pos c_8).symm.trans hq
              have r_13 : zB (-1) (-1) t := ⟨(Int.le_of_eq c_8.symm), (Int.le_of_eq c_8)⟩
              refine lv_iload hx hb d_S_overtake_49 (lv_at hl 4 rfl) ?_
              refine lv_goto (tgt := 55) hx hb d_S_overtake_51 (by decide) ?_
              refine lv_istore_n (lv' := [(3, .int (zi i)), (0, .ref (ad 0)), (1, .int (zi a)), (2, .int (zi w)), (4, .int (zi i))]) hx hb d_S_overtake_55 rfl hl (by decide) rfl (fun ls hl => ?_)
              refine lv_iload_n hx hb d_S_overtake_56 rfl (lv_at hl 3 rfl) ?_
              refine lv_aload_n hx hb d_S_overtake_57 rfl (lv_at hl 1 rfl) ?_
              refine va_get (D := (dC, dI)) (ci := 1) (v := .ref (ad 4)) (C := R_S) (T := T_S) (N := 13) hx hb hw i_S hown hK hP 0 rfl rfl 3 (by decide) (hw _ m_34) (fun _ h9 => h9) rfl d_S_overtake_58 ?_
              refine lv_iload hx hb d_S_overtake_61 (lv_at hl 4 rfl) ?_
              refine zr_iald hx hb hK hP 4 0 (cA := cI) (n := 60) (g := S 3) rfl rfl (i := i) (by omega) (by omega) (by decide) d_S_overtake_63 ?_
              refine lv_aload_n hx hb d_S_overtake_64 rfl (lv_at hl 1 rfl) ?_
              refine va_get (D := (dC, dI)) (ci := 1) (v := .ref (ad 4)) (C := R_S) (T := T_S) (N := 13) hx hb hw i_S hown hK hP 0 rfl rfl 3 (by decide) (hw _ m_34) (fun _ h9 => h9) rfl d_S_overtake_65 ?_
              refine lv_iload_n hx hb d_S_overtake_68 rfl (lv_at hl 0 rfl) ?_
              refine zr_iald hx hb hK hP 4 0 (cA := cI) (n := 60) (g := S 3) rfl rfl (i := i) (by omega) (by omega) (by decide) d_S_overtake_69 ?_
              have b_14 : zB (-2545620) 2545620 ((S 3 i) - (S 3 i)) := zB.w (zb_sub (iS_a3 hI i) (iS_a3 hI i)) (by decide) (by decide)
              refine zr_isub hx hb d_S_overtake_70 ?_
              refine zr_max hx hb (hml.trans hl.1.symm) hown (hw _ m_71) (hw _ m_72) (hw _ m_4) (hw _ m_73) (Nat.le_of_ble_eq_true rfl) (Nat.le_of_ble_eq_true rfl) (Nat.zero_le _) (Nat.zero_le _) (zB.I hb_w (by decide) (by decide)) (zB.I b_14 (by decide) (by decide)) d_S_overtake_71 ?_
              have b_15 : zB 0 2545620 (zmax w ((S 3 i) - (S 3 i))) := zB.w (zb_maxl (lo := 0) (hi := 2545620) hb_w b_14 (by decide) (by decide) (by decide)) (by decide) (by decide)
              obtain ⟨hl_b_15, hh_b_15⟩ := id b_15
              refine lv_istore_n (lv' := [(2, .int (zi (zmax w ((S 3 i) - (S 3 i))))), (3, .int (zi i)), (0, .ref (ad 0)), (1, .int (zi a)), (4, .int (zi i))]) hx hb d_S_overtake_74 rfl hl (by decide) rfl (fun ls hl => ?_)
              have b_16 : zB 1 61 (i + 1) := zB.w (zb_add hb_i (zb_c 1)) (by decide) (by decide)
              refine lv_iinc (v := zi (i + 1)) (lv' := [(4, .int (zi (i + 1))), (2, .int (zi (zmax w ((S 3 i) - (S 3 i))))), (3, .int (zi i)), (0, .ref (ad 0)), (1, .int (zi a))]) hx hb d_S_overtake_75 hl (k := 4) rfl (zi_add _ _) (by decide) rfl (fun ls hl => ?_)
              refine lv_goto (tgt := 19) hx hb d_S_overtake_78 (by decide) ?_
              exact ih (zmax w ((S 3 i) - (S 3 i))) i (i + 1) ls _ _ k0_e_5 k1_e_5 k2_e_5 k3_e_5 (zB.w hk0_e_5 (by decide) (by decide)) (zB.w hk1_e_5 (by decide) (by decide)) (zB.w hk2_e_5 (by decide) (by decide)) (zB.w hk3_e_5 (by decide) (by decide)) hP hS (zB.w b_15 (by decide) (by decide)) ⟨by have h9 := hb_i.1; have h8 := hb_i.2; omega, by have h9 := hb_i.1; have h8 := hb_i.2; omega⟩ ⟨by have h9 := b_16.1; have h8 := b_16.2; omega, by have h9 := b_16.1; have h8 := b_16.2; omega⟩ (by omega) (by omega) hq (lv_sub hl [3, 4, 1, 2, 0] rfl)
          · replace hq := (if_pos c_7).symm.trans hq
            refine lv_iconst (v := zi (-1)) hx hb d_S_overtake_39 rfl ?_
            refine lv_istore_n (lv' := [(3, .int (zi (-1))), (0, .ref (ad 0)), (1, .int (zi a)), (2, .int (zi w)), (4, .int (zi i))]) hx hb d_S_overtake_40 rfl hl (by decide) rfl (fun ls hl => ?_)
            refine lv_goto (tgt := 75) hx hb d_S_overtake_41 (by decide) ?_
            have b_17 : zB 1 61 (i + 1) := zB.w (zb_add hb_i (zb_c 1)) (by decide) (by decide)
            refine lv_iinc (v := zi (i + 1)) (lv' := [(4, .int (zi (i + 1))), (3, .int (zi (-1))), (0, .ref (ad 0)), (1, .int (zi a)), (2, .int (zi w))]) hx hb d_S_overtake_75 hl (k := 4) rfl (zi_add _ _) (by decide) rfl (fun ls hl => ?_)
            refine lv_goto (tgt := 19) hx hb d_S_overtake_78 (by decide) ?_
            exact ih w (-1) (i + 1) ls _ _ k0_e_5 k1_e_5 k2_e_5 k3_e_5 (zB.w hk0_e_5 (by decide) (by decide)) (zB.w hk1_e_5 (by decide) (by decide)) (zB.w hk2_e_5 (by decide) (by decide)) (zB.w hk3_e_5 (by decide) (by decide)) hP hS (zB.w hb_w (by decide) (by decide)) (zB.w (zb_c (-1)) (by decide) (by decide)) ⟨by have h9 := b_17.1; have h8 := b_17.2; omega, by have h9 := b_17.1; have h8 := b_17.2; omega⟩ (by omega) (by omega) hq (lv_sub hl [2, 3, 4, 1, 0] rfl)
    refine L_l _ (fun w hb_w ls H locs k0 k1 k2 k3 hk0 hk1 hk2 hk3 hP hS hq hl => ?_) 61 0 (-1) 0 ls _ _ k0 k1 k2 k3 (zB.w hb_k0 (by decide) (by decide)) (zB.w hb_k1 (by decide) (by decide)) (zB.w hb_k2 (by decide) (by decide)) (zB.w hb_k3 (by decide) (by decide)) hP hS (zB.w (zb_c 0) (by decide) (by decide)) (zB.w (zb_c (-1)) (by decide) (by decide)) (zB.w (zb_c 0) (by decide) (by decide)) (by omega) (by omega) hq (lv_sub hl [3, 4, 2, 1, 0] rfl)
    obtain ⟨hl_w, hh_w⟩ := id hb_w
    refine lv_iload_n hx hb d_S_overtake_81 rfl (lv_at hl 2 rfl) ?_
    exact zw_i hx hb hr hlocks hq ⟨k0, k1, k2, k3, zB.w hk0 (by decide) (by decide), zB.w hk1 (by decide) (by decide), zB.w hk2 (by decide) (by decide), zB.w hk3 (by decide) (by decide), hP⟩ hS d_S_overtake_82
  · replace hq := (if_pos c_1).symm.trans hq
    have r_18 : zB 0 0 (f_S_isWithin a 1 1000000) := ⟨(Int.le_of_eq c_1.symm), (Int.le_of_eq c_1)⟩
    refine lv_iconst (v := zi (-1)) hx hb d_S_overtake_10 rfl ?_
    exact zw_i hx hb hr hlocks hq ⟨k0, k1, k2, k3, zB.w hb_k0 (by decide) (by decide), zB.w hb_k1 (by decide) (by decide), zB.w hb_k2 (by decide) (by decide), zB.w hb_k3 (by decide) (by decide), hP⟩ hS d_S_overtake_11
def f_S_seen_l (S : Nat → Int → Int) (a : Int) (b : Int) (d : Int) (z : Int → Int) : Nat → Int → Int → Int
  | 0, _, _ => 0
  | k + 1, t, i => if i < (S 11 0) then (if 9000000 < (f_S_squareOf (a - (S 0 i)) (b - (S 1 i))) then (f_S_seen_l S a b d z k t (i + 1)) else (if (f_B_firstAcross S (S 0 i) (S 1 i) ((S 2 i) + (S 11 2)) a b d) = (-1) then (f_S_seen_l S a b d z k (t + 1) (i + 1)) else (f_S_seen_l S a b d z k t (i + 1)))) else (z t)
theorem f_S_seen_l_s (S : Nat → Int → Int) (a : Int) (b : Int) (d : Int) (z : Int → Int) (k : Nat) (t i : Int) : f_S_seen_l S a b d z (k + 1) t i = (if i < (S 11 0) then (if 9000000 < (f_S_squareOf (a - (S 0 i)) (b - (S 1 i))) then (f_S_seen_l S a b d z k t (i + 1)) else (if (f_B_firstAcross S (S 0 i) (S 1 i) ((S 2 i) + (S 11 2)) a b d) = (-1) then (f_S_seen_l S a b d z k (t + 1) (i + 1)) else (f_S_seen_l S a b d z k t (i + 1)))) else (z t)) := rfl
def f_S_seen (S : Nat → Int → Int) (a b d : Int) : Int := if (f_S_isInPlane a b) = 0 then (-1) else (if (f_S_isLevel d) = 0 then (-1) else (f_S_seen_l S a b d (fun t => t) 61 0 0))
set_option maxHeartbeats 4000000 in
set_option maxRecDepth 100000 in
theorem k_S_seen (l : Launch) (dC : Nat → ClassId) (dI : Nat → Nat → Nat) (ad : Nat → Nat) (cI : ClassId) (S : Nat → Int → Int) (k0 k1 k2 k3 : Int) (hI : iS S) (hj : zJ 13 ad) (hb_k0 : zB (-30000) 30000 k0) (hb_k1 : zB (-30000) 30000 k1) (hb_k2 : zB (-30000) 30000 k2) (hb_k3 : zB (-30000) 30000 k3) (a b d : Int) (hb_a : zB (-2147483648) 2147483647 a) (hb_b : zB (-2147483648) 2147483647 b) (hb_d : zB (-2147483648) 2147483647 d) : Met l y_S_seen (Cond.code y_S_seen c_S_seen 7 (some .int) :: zT) { frames := 3, cells := 0, slots := 0, locals := 71 } (va_Pc ([.ref (ad 0), .int (zi a), .int (zi b), .int (zi d)] : List Value) (zWS dC dI ad cI S k0 k1 k2 k3)) (zQ (some (.int (zi (f_S_seen S a b d)))) (fun H => ∃ k0 k1 k2 k3 : Int, zB (-30000) 30000 k0 ∧ zB (-30000) 30000 k1 ∧ zB (-30000) 30000 k2 ∧ zB (-30000) 30000 k3 ∧ va_P (dC, dI) classes (wS ad cI S k0 k1 k2 k3) H) (zAS ad)) 0 0 (zAS ad) := by
  refine zh (cc := c_S_seen) (C := R_S) (by decide) rfl rfl (Nat.le_of_ble_eq_true rfl) ?_
  intro p e s m below meth c ls hx hb hr hlocks hml hown hname hts hl hB
  have hw : ∀ w9 ∈ zT, w9.before ([.ref (ad 0), .int (zi a), .int (zi b), .int (zi d)] : List Value).toArray s = true := fun w9 h => hts w9 (List.mem_cons_of_mem _ h)
  obtain ⟨hP, hK, hN⟩ := hB
  obtain ⟨hn0, hn1⟩ := id (iS_s0 hI)
  have hD := zDS hj cI
  have hS : va_S (zAS ad) s.heap s.heap [] := va_S.rf
  obtain ⟨hz0, hz1⟩ := id (iS_s6 hI)
  obtain ⟨hl_a, hh_a⟩ := id hb_a
  obtain ⟨hl_b, hh_b⟩ := id hb_b
  obtain ⟨hl_d, hh_d⟩ := id hb_d
  generalize hq : f_S_seen S a b d = r
  unfold f_S_seen at hq
  replace hl : lv_has ls 7 [(0, .ref (ad 0)), (1, .int (zi a)), (2, .int (zi b)), (3, .int (zi d))] := hl
  refine lv_iload_n hx hb d_S_seen_0 rfl (lv_at hl 1 rfl) ?_
  refine lv_iload_n hx hb d_S_seen_1 rfl (lv_at hl 2 rfl) ?_
  refine zc_n (va_runS (As := [.int (zi a), .int (zi b)]) (rest := []) ⟨hx, hb, hml, hown, hts⟩ (k_S_isInPlane l a b (zB.w hb_a (by decide) (by decide)) (zB.w hb_b (by decide) (by decide)) ) (zcS 2 hts m_50 m_1 m_48 m_49 rfl rfl q_S_isInPlane ⟨Nat.le_of_ble_eq_true rfl, Nat.le_of_ble_eq_true rfl⟩) (zp0 [.int (zi a), .int (zi b)]) rfl rfl hl.1 rfl (lv_room (Nat.le_of_ble_eq_true rfl)) d_S_seen_2 ⟨Nat.zero_le _, Nat.zero_le _⟩) ?_
  refine zr_if_eq (tgt := 15) hx hb (zB.I (bb_S_isInPlane a b) (by decide) (by decide)) d_S_seen_5 (by decide) (fun c_1 => ?_) (fun c_1 => ?_)
  · replace hq := (if_pos c_1).symm.trans hq
    have r_2 : zB 0 0 (f_S_isInPlane a b) := ⟨(Int.le_of_eq c_1.symm), (Int.le_of_eq c_1)⟩
    refine lv_iconst (v := zi (-1)) hx hb d_S_seen_15 rfl ?_
    exact zw_i hx hb hr hlocks hq ⟨k0, k1, k2, k3, zB.w hb_k0 (by decide) (by decide), zB.w hb_k1 (by decide) (by decide), zB.w hb_k2 (by decide) (by decide), zB.w hb_k3 (by decide) (by decide), hP⟩ hS d_S_seen_16
  · replace hq := (if_neg c_1).symm.trans hq
    have r_3 : zB 1 1 (f_S_isInPlane a b) := ⟨(by have := (bb_S_isInPlane a b).1; omega), (bb_S_isInPlane a b).2⟩
    have g_4 := gf_S_isInPlane c_1
    obtain ⟨g_4l0, g_4h0⟩ := id g_4.1
    obtain ⟨g_4l1, g_4h1⟩ := id g_4.2
    refine lv_iload_n hx hb d_S_seen_8 rfl (lv_at hl 3 rfl) ?_
    refine zc_n (va_runS (As := [.int (zi d)]) (rest := []) ⟨hx, hb, hml, hown, hts⟩ (k_S_isLevel l d (zB.w hb_d (by decide) (by decide)) ) (zcS 1 hts m_56 m_1 m_54 m_55 rfl rfl q_S_isLevel ⟨Nat.le_of_ble_eq_true rfl, Nat.le_of_ble_eq_true rfl⟩) (zp0 [.int (zi d)]) rfl rfl hl.1 rfl (lv_room (Nat.le_of_ble_eq_true rfl)) d_S_seen_9 ⟨Nat.zero_le _, Nat.zero_le _⟩) ?_
    refine zr_if_ne (tgt := 17) hx hb (zB.I (bb_S_isLevel d) (by decide) (by decide)) d_S_seen_12 (by decide) (fun c_5 => ?_) (fun c_5 => ?_)
    · replace hq := (if_neg c_5).symm.trans hq
      have r_6 : zB 1 1 (f_S_isLevel d) := ⟨(by have := (bb_S_isLevel d).1; omega), (bb_S_isLevel d).2⟩
      have g_7 := gf_S_isLevel c_5
      obtain ⟨g_7l, g_7h⟩ := id g_7
      refine lv_iconst (v := zi 0) hx hb d_S_seen_17 rfl ?_
      refine lv_istore (lv' := [(4, .int (zi 0)), (0, .ref (ad 0)), (1, .int (zi a)), (2, .int (zi b)), (3, .int (zi d))]) hx hb d_S_seen_18 hl (by decide) rfl (fun ls hl => ?_)
      refine lv_iconst (v := zi 0) hx hb d_S_seen_20 rfl ?_
      refine lv_istore (lv' := [(5, .int (zi 0)), (4, .int (zi 0)), (0, .ref (ad 0)), (1, .int (zi a)), (2, .int (zi b)), (3, .int (zi d))]) hx hb d_S_seen_21 hl (by decide) rfl (fun ls hl => ?_)
      have L_l : ∀ (z : Int → Int), (∀ (t : Int), zB 0 60 t → ∀ (ls : Array Slot) (H : Heap) (locs : List Loc) (k0 k1 k2 k3 : Int), zB (-30000) 30000 k0 → zB (-30000) 30000 k1 → zB (-30000) 30000 k2 → zB (-30000) 30000 k3 → va_P (dC, dI) classes (wS ad cI S k0 k1 k2 k3) H → va_S (zAS ad) s.heap H locs → z t = r → lv_has ls 7 [(0, .ref (ad 0)), (1, .int (zi a)), (2, .int (zi b)), (3, .int (zi d)), (4, .int (zi t))] → W p l e { frames := 3, cells := 0, slots := 0, locals := 71 } s m ([.ref (ad 0), .int (zi a), .int (zi b), .int (zi d)] : List Value).toArray below meth c H locs 0 0 (MQ below (zQ (some (.int (zi r))) (fun H => ∃ k0 k1 k2 k3 : Int, zB (-30000) 30000 k0 ∧ zB (-30000) 30000 k1 ∧ zB (-30000) 30000 k2 ∧ zB (-30000) 30000 k3 ∧ va_P (dC, dI) classes (wS ad cI S k0 k1 k2 k3) H) (zAS ad)) ([.ref (ad 0), .int (zi a), .int (zi b), .int (zi d)] : List Value).toArray s 0 0 (zAS ad)) (F0 m 123 ls [])) → ∀ (k : Nat) (t i : Int) (ls : Array Slot) (H : Heap) (locs : List Loc) (k0 k1 k2 k3 : Int), zB (-30000) 30000 k0 → zB (-30000) 30000 k1 → zB (-30000) 30000 k2 → zB (-30000) 30000 k3 → va_P (dC, dI) classes (wS ad cI S k0 k1 k2 k3) H → va_S (zAS ad) s.heap H locs → zB 0 60 t → zB 0 60 i → t ≤ i → 60 - i < (k : Int) → f_S_seen_l S a b d z k t i = r → lv_has ls 7 [(0, .ref (ad 0)), (1, .int (zi a)), (2, .int (zi b)), (3, .int (zi d)), (4, .int (zi t)), (5, .int (zi i))] → W p l e { frames := 3, cells := 0, slots := 0, locals := 71 } s m ([.ref (ad 0), .int (zi a), .int (zi b), .int (zi d)] : List Value).toArray below meth c H locs 0 0 (MQ below (zQ (some (.int (zi r))) (fun H => ∃ k0 k1 k2 k3 : Int, zB (-30000) 30000 k0 ∧ zB (-30000) 30000 k1 ∧ zB (-30000) 30000 k2 ∧ zB (-30000) 30000 k3 ∧ va_P (dC, dI) classes (wS ad cI S k0 k1 k2 k3) H) (zAS ad)) ([.ref (ad 0), .int (zi a), .int (zi b), .int (zi d)] : List Value).toArray s 0 0 (zAS ad)) (F0 m 23 ls []) := by
        intro z hz k
        induction k with
        | zero =>
          intro t i ls H locs k0 k1 k2 k3 hk0 hk1 hk2 hk3 hP hS hb_t hb_i hi_0 hk hq hl
          exact absurd hk (by have := hb_t.1; have := hb_t.2; have := hb_i.1; have := hb_i.2; omega)
        | succ k ih =>
          intro t i ls H locs k0 k1 k2 k3 hk0 hk1 hk2 hk3 hP hS hb_t hb_i hi_0 hk hq hl
          obtain ⟨hl_t, hh_t⟩ := id hb_t
          obtain ⟨hl_i, hh_i⟩ := id hb_i
          replace hq := (f_S_seen_l_s S a b d z k t i).symm.trans hq
          refine lv_iload hx hb d_S_seen_23 (lv_at hl 5 rfl) ?_
          refine lv_aload_n hx hb d_S_seen_25 rfl (lv_at hl 0 rfl) ?_
          refine va_get (D := (dC, dI)) (ci := 1) (v := .int (zi (S 11 0))) (C := R_S) (T := T_S) (N := 13) hx hb hw i_S hown hK hP 0 rfl rfl 7 (by decide) (hw _ m_38) (fun _ h9 => h9) rfl d_S_seen_26 ?_
          refine zr_icmp_ge (tgt := 123) hx hb (zB.I hb_i (by decide) (by decide)) (zB.I (iS_s0 hI) (by decide) (by decide)) d_S_seen_29 (by decide) (fun c_8 => ?_) (fun c_8 => ?_)
          · replace hq := (if_neg c_8).symm.trans hq
            exact hz t (zB.w hb_t (by decide) (by decide)) ls _ _ k0 k1 k2 k3 (zB.w hk0 (by decide) (by decide)) (zB.w hk1 (by decide) (by decide)) (zB.w hk2 (by decide) (by decide)) (zB.w hk3 (by decide) (by decide)) hP hS hq (lv_sub hl [0, 1, 2, 3, 4] rfl)
          · replace hq := (if_pos c_8).symm.trans hq
            refine lv_iload_n hx hb d_S_seen_32 rfl (lv_at hl 1 rfl) ?_
            refine lv_aload_n hx hb d_S_seen_33 rfl (lv_at hl 0 rfl) ?_
            refine va_get (D := (dC, dI)) (ci := 1) (v := .ref (ad 1)) (C := R_S) (T := T_S) (N := 13) hx hb hw i_S hown hK hP 0 rfl rfl 0 (by decide) (hw _ m_31) (fun _ h9 => h9) rfl d_S_seen_34 ?_
            refine lv_iload hx hb d_S_seen_37 (lv_at hl 5 rfl) ?_
            refine zr_iald hx hb hK hP 1 0 (cA := cI) (n := 60) (g := S 0) rfl rfl (i := i) (by omega) (by omega) (by decide) d_S_seen_39 ?_
            have b_9 : zB (-30000) 30000 (a - (S 0 i)) := zB.w (zb_sub g_4.1 (iS_a0 hI i)) (by decide) (by decide)
            refine zr_isub hx hb d_S_seen_40 ?_
            refine zr_i2l hx hb (zB.I b_9 (by decide) (by decide)) d_S_seen_41 ?_
            refine lv_iload_n hx hb d_S_seen_42 rfl (lv_at hl 2 rfl) ?_
            refine lv_aload_n hx hb d_S_seen_43 rfl (lv_at hl 0 rfl) ?_
            refine va_get (D := (dC, dI)) (ci := 1) (v := .ref (ad 2)) (C := R_S) (T := T_S) (N := 13) hx hb hw i_S hown hK hP 0 rfl rfl 1 (by decide) (hw _ m_32) (fun _ h9 => h9) rfl d_S_seen_44 ?_
            refine lv_iload hx hb d_S_seen_47 (lv_at hl 5 rfl) ?_
            refine zr_iald hx hb hK hP 2 0 (cA := cI) (n := 60) (g := S 1) rfl rfl (i := i) (by omega) (by omega) (by decide) d_S_seen_49 ?_
            have b_10 : zB (-30000) 30000 (b - (S 1 i)) := zB.w (zb_sub g_4.2 (iS_a1 hI i)) (by decide) (by decide)
            refine zr_isub hx hb d_S_seen_50 ?_
            refine zr_i2l hx hb (zB.I b_10 (by decide) (by decide)) d_S_seen_51 ?_
            refine zc_n (va_runS (As := [.long (zl (a - (S 0 i))), .long (zl (b - (S 1 i)))]) (rest := []) ⟨hx, hb, hml, hown, hts⟩ (k_S_squareOf l (a - (S 0 i)) (b - (S 1 i)) (zB.w b_9 (by decide) (by decide)) (zB.w b_10 (by decide) (by decide)) ) (zcS 2 hts m_67 m_1 m_65 m_66 rfl rfl q_S_squareOf ⟨Nat.le_of_ble_eq_true rfl, Nat.le_of_ble_eq_true rfl⟩) (zp0 [.long (zl (a - (S 0 i))), .long (zl (b - (S 1 i)))]) rfl rfl hl.1 rfl (lv_room (Nat.le_of_ble_eq_true rfl)) d_S_seen_52 ⟨Nat.zero_le _, Nat.zero_le _⟩) ?_
            have b_11 : zB 0 1800000000 (f_S_squareOf (a - (S 0 i)) (b - (S 1 i))) := br_S_squareOf (a - (S 0 i)) (b - (S 1 i)) (zB.w b_9 (by decide) (by decide)) (zB.w b_10 (by decide) (by decide)) 
            refine lv_ldc2 (v := zl 9000000) hx hb hown (hw _ m_204) d_S_seen_55 ?_
            refine zr_lcmp_gt (tgt := 66) hx hb (zB.L b_11 (by decide) (by decide)) (zB.L (zb_c 9000000) (by decide) (by decide)) d_S_seen_58 d_S_seen_59 (by decide) (fun c_12 => ?_) (fun c_12 => ?_)
            · replace hq := (if_pos c_12).symm.trans hq
              have r_13 : zB 9000001 1800000000 (f_S_squareOf (a - (S 0 i)) (b - (S 1 i))) := ⟨(Int.add_one_le_of_lt c_12), b_11.2⟩
              refine lv_iconst (v := zi 0) hx hb d_S_seen_66 rfl ?_
              refine lv_istore (lv' := [(6, .int (zi 0)), (0, .ref (ad 0)), (1, .int (zi a)), (2, .int (zi b)), (3, .int (zi d)), (4, .int (zi t)), (5, .int (zi i))]) hx hb d_S_seen_67 hl (by decide) rfl (fun ls hl => ?_)
              refine lv_iload hx hb d_S_seen_69 (lv_at hl 0 rfl) ?_
              refine zr_if_eq (tgt := 117) hx hb (zB.I (zb_c 0) (by decide) (by decide)) d_S_seen_71 (by decide) (fun _ => ?_) (fun c => absurd (by decide : (0 : Int) = 0) c)
              have b_14 : zB 1 61 (i + 1) := zB.w (zb_add hb_i (zb_c 1)) (by decide) (by decide)
              refine lv_iinc (v := zi (i + 1)) (lv' := [(5, .int (zi (i + 1))), (6, .int (zi 0)), (0, .ref (ad 0)), (1, .int (zi a)), (2, .int (zi b)), (3, .int (zi d)), (4, .int (zi t))]) hx hb d_S_seen_117 hl (k := 6) rfl (zi_add _ _) (by decide) rfl (fun ls hl => ?_)
              refine lv_goto (tgt := 23) hx hb d_S_seen_120 (by decide) ?_
              exact ih t (i + 1) ls _ _ k0 k1 k2 k3 (zB.w hk0 (by decide) (by decide)) (zB.w hk1 (by decide) (by decide)) (zB.w hk2 (by decide) (by decide)) (zB.w hk3 (by decide) (by decide)) hP hS (zB.w hb_t (by decide) (by decide)) ⟨by have h9 := b_14.1; have h8 := b_14.2; omega, by have h9 := b_14.1; have h8 := b_14.2; omega⟩ (by omega) (by omega) hq (lv_sub hl [2, 3, 4, 5, 6, 0] rfl)
            · replace hq := (if_neg c_12).symm.trans hq
              have r_15 : zB 0 9000000 (f_S_squareOf (a - (S 0 i)) (b - (S 1 i))) := ⟨b_11.1, (Int.not_lt.mp c_12)⟩
              refine lv_iconst (v := zi 1) hx hb d_S_seen_62 rfl ?_
              refine lv_goto (tgt := 67) hx hb d_S_seen_63 (by decide) ?_
              refine lv_istore (lv' := [(6, .int (zi 1)), (0, .ref (ad 0)), (1, .int (zi a)), (2, .int (zi b)), (3, .int (zi d)), (4, .int (zi t)), (5, .int (zi i))]) hx hb d_S_seen_67 hl (by decide) rfl (fun ls hl => ?_)
              refine lv_iload hx hb d_S_seen_69 (lv_at hl 0 rfl) ?_
              refine zr_if_eq (tgt := 117) hx hb (zB.I (zb_c 1) (by decide) (by decide)) d_S_seen_71 (by decide) (fun c => absurd c (by decide : ¬ (1 : Int) = 0)) (fun _ => ?_)
              refine lv_aload_n hx hb d_S_seen_74 rfl (lv_at hl 1 rfl) ?_
              refine va_get (D := (dC, dI)) (ci := 1) (v := .ref (ad 7)) (C := R_S) (T := T_S) (N := 13) hx hb hw i_S hown hK hP 0 rfl rfl 6 (by decide) (hw _ m_37) (fun _ h9 => h9) rfl d_S_seen_75 ?_
              refine lv_aload_n hx hb d_S_seen_78 rfl (lv_at hl 1 rfl) ?_
              refine va_get (D := (dC, dI)) (ci := 1) (v := .ref (ad 1)) (C := R_S) (T := T_S) (N := 13) hx hb hw i_S hown hK hP 0 rfl rfl 0 (by decide) (hw _ m_31) (fun _ h9 => h9) rfl d_S_seen_79 ?_
              refine lv_iload hx hb d_S_seen_82 (lv_at hl 6 rfl) ?_
              refine zr_iald hx hb hK hP 1 0 (cA := cI) (n := 60) (g := S 0) rfl rfl (i := i) (by omega) (by omega) (by decide) d_S_seen_84 ?_
              refine lv_aload_n hx hb d_S_seen_85 rfl (lv_at hl 1 rfl) ?_
              refine va_get (D := (dC, dI)) (ci := 1) (v := .ref (ad 2)) (C := R_S) (T := T_S) (N := 13) hx hb hw i_S hown hK hP 0 rfl rfl 1 (by decide) (hw _ m_32) (fun _ h9 => h9) rfl d_S_seen_86 ?_
              refine lv_iload hx hb d_S_seen_89 (lv_at hl 6 rfl) ?_
              refine zr_iald hx hb hK hP 2 0 (cA := cI) (n := 60) (g := S 1) rfl rfl (i := i) (by omega) (by omega) (by decide) d_S_seen_91 ?_
              refine lv_aload_n hx hb d_S_seen_92 rfl (lv_at hl 1 rfl) ?_
              refine va_get (D := (dC, dI)) (ci := 1) (v := .ref (ad 3)) (C := R_S) (T := T_S) (N := 13) hx hb hw i_S hown hK hP 0 rfl rfl 2 (by decide) (hw _ m_33) (fun _ h9 => h9) rfl d_S_seen_93 ?_
              refine lv_iload hx hb d_S_seen_96 (lv_at hl 6 rfl) ?_
              refine zr_iald hx hb hK hP 3 0 (cA := cI) (n := 60) (g := S 2) rfl rfl (i := i) (by omega) (by omega) (by decide) d_S_seen_98 ?_
              refine lv_aload_n hx hb d_S_seen_99 rfl (lv_at hl 1 rfl) ?_
              refine va_get (D := (dC, dI)) (ci := 1) (v := .int (zi (S 11 2))) (C := R_S) (T := T_S) (N := 13) hx hb hw i_S hown hK hP 0 rfl rfl 9 (by decide) (hw _ m_40) (fun _ h9 => h9) rfl d_S_seen_100 ?_
              have b_16 : zB (-100000) 101000 ((S 2 i) + (S 11 2)) := zB.w (zb_add (iS_a2 hI i) (iS_s2 hI)) (by decide) (by decide)
              refine zr_iadd hx hb d_S_seen_103 ?_
              refine lv_iload_n hx hb d_S_seen_104 rfl (lv_at hl 2 rfl) ?_
              refine lv_iload_n hx hb d_S_seen_105 rfl (lv_at hl 3 rfl) ?_
              refine lv_iload_n hx hb d_S_seen_106 rfl (lv_at hl 4 rfl) ?_
              refine zc_w (va_runVN (As := [.int (zi (S 0 i)), .int (zi (S 1 i)), .int (zi ((S 2 i) + (S 11 2))), .int (zi a), .int (zi b), .int (zi d)]) (rest := []) ⟨hx, hb, hml, hown, hts⟩ (k_B_firstAcross l dC dI ad cI S k0 k1 k2 k3 hI hj (zB.w hk0 (by decide) (by decide)) (zB.w hk1 (by decide) (by decide)) (zB.w hk2 (by decide) (by decide)) (zB.w hk3 (by decide) (by decide)) (S 0 i) (S 1 i) ((S 2 i) + (S 11 2)) a b d (zB.w (iS_a0 hI i) (by decide) (by decide)) (zB.w (iS_a1 hI i) (by decide) (by decide)) (zB.w b_16 (by decide) (by decide)) (zB.w g_4.1 (by decide) (by decide)) (zB.w g_4.2 (by decide) (by decide)) (zB.w g_7 (by decide) (by decide)) ) (zcN 6 hts m_137 m_2 hN.1 m_136 m_380 rfl rfl q_B_firstAcross ⟨Nat.le_of_ble_eq_true rfl, Nat.le_of_ble_eq_true rfl⟩) (zpS7 hP hK hN [.int (zi (S 0 i)), .int (zi (S 1 i)), .int (zi ((S 2 i) + (S 11 2))), .int (zi a), .int (zi b), .int (zi d)]) rfl rfl hl.1 rfl (lv_room (Nat.le_of_ble_eq_true rfl)) d_S_seen_107 ⟨Nat.zero_le _, Nat.zero_le _⟩) hS (fun q _ h => h) (fun q h => h) (fun H locs hP hz1 hk1 hS => ?_)
              clear hz1 hk1
              obtain ⟨k0_e_17, k1_e_17, k2_e_17, k3_e_17, hk0_e_17, hk1_e_17, hk2_e_17, hk3_e_17, hP⟩ := hP
              have b_18 : zB (-1) 8 (f_B_firstAcross S (S 0 i) (S 1 i) ((S 2 i) + (S 11 2)) a b d) := br_B_firstAcross S (S 0 i) (S 1 i) ((S 2 i) + (S 11 2)) a b d hI (zB.w (iS_a0 hI i) (by decide) (by decide)) (zB.w (iS_a1 hI i) (by decide) (by decide)) (zB.w b_16 (by decide) (by decide)) (zB.w g_4.1 (by decide) (by decide)) (zB.w g_4.2 (by decide) (by decide)) (zB.w g_7 (by decide) (by decide)) 
              refine lv_iconst (v := zi (-1)) hx hb d_S_seen_110 rfl ?_
              refine zr_icmp_ne (tgt := 117) hx hb (zB.I b_18 (by decide) (by decide)) (zB.I (zb_c (-1)) (by decide) (by decide)) d_S_seen_111 (by decide) (fun c_19 => ?_) (fun c_19 => ?_)
              · replace hq := (if_neg c_19).symm.trans hq
                have r_20 : zB 0 8 (f_B_firstAcross S (S 0 i) (S 1 i) ((S 2 i) + (S 11 2)) a b d) := ⟨(by have := b_18.1; omega), b_18.2⟩
                have b_21 : zB 1 61 (i + 1) := zB.w (zb_add hb_i (zb_c 1)) (by decide) (by decide)
                refine lv_iinc (v := zi (i + 1)) (lv' := [(5, .int (zi (i + 1))), (6, .int (zi 1)), (0, .ref (ad 0)), (1, .int (zi a)), (2, .int (zi b)), (3, .int (zi d)), (4, .int (zi t))]) hx hb d_S_seen_117 hl (k := 6) rfl (zi_add _ _) (by decide) rfl (fun ls hl => ?_)
                refine lv_goto (tgt := 23) hx hb d_S_seen_120 (by decide) ?_
                exact ih t (i + 1) ls _ _ k0_e_17 k1_e_17 k2_e_17 k3_e_17 (zB.w hk0_e_17 (by decide) (by decide)) (zB.w hk1_e_17 (by decide) (by decide)) (zB.w hk2_e_17 (by decide) (by decide)) (zB.w hk3_e_17 (by decide) (by decide)) hP hS (zB.w hb_t (by decide) (by decide)) ⟨by have h9 := b_21.1; have h8 := b_21.2; omega, by have h9 := b_21.1; have h8 := b_21.2; omega⟩ (by omega) (by omega) hq (lv_sub hl [2, 3, 4, 5, 6, 0] rfl)
              · replace hq := (if_pos c_19).symm.trans hq
                have r_22 : zB (-1) (-1) (f_B_firstAcross S (S 0 i) (S 1 i) ((S 2 i) + (S 11 2)) a b d) := ⟨(Int.le_of_eq c_19.symm), (Int.le_of_eq c_19)⟩
                have b_23 : zB 1 61 (t + 1) := zB.w (zb_add hb_t (zb_c 1)) (by decide) (by decide)
                refine lv_iinc (v := zi (t + 1)) (lv' := [(4, .int (zi (t + 1))), (6, .int (zi 1)), (0, .ref (ad 0)), (1, .int (zi a)), (2, .int (zi b)), (3, .int (zi d)), (5, .int (zi i))]) hx hb d_S_seen_114 hl (k := 5) rfl (zi_add _ _) (by decide) rfl (fun ls hl => ?_)
                have b_24 : zB 1 61 (i + 1) := zB.w (zb_add hb_i (zb_c 1)) (by decide) (by decide)
                refine lv_iinc (v := zi (i + 1)) (lv' := [(5, .int (zi (i + 1))), (4, .int (zi (t + 1))), (6, .int (zi 1)), (0, .ref (ad 0)), (1, .int (zi a)), (2, .int (zi b)), (3, .int (zi d))]) hx hb d_S_seen_117 hl (k := 6) rfl (zi_add _ _) (by decide) rfl (fun ls hl => ?_)
                refine lv_goto (tgt := 23) hx hb d_S_seen_120 (by decide) ?_
                exact ih (t + 1) (i + 1) ls _ _ k0_e_17 k1_e_17 k2_e_17 k3_e_17 (zB.w hk0_e_17 (by decide) (by decide)) (zB.w hk1_e_17 (by decide) (by decide)) (zB.w hk2_e_17 (by decide) (by decide)) (zB.w hk3_e_17 (by decide) (by decide)) hP hS ⟨by have h9 := b_23.1; have h8 := b_23.2; omega, by have h9 := b_23.1; have h8 := b_23.2; omega⟩ ⟨by have h9 := b_24.1; have h8 := b_24.2; omega, by have h9 := b_24.1; have h8 := b_24.2; omega⟩ (by omega) (by omega) hq (lv_sub hl [3, 4, 5, 6, 1, 0] rfl)
      refine L_l _ (fun t hb_t ls H locs k0 k1 k2 k3 hk0 hk1 hk2 hk3 hP hS hq hl => ?_) 61 0 0 ls _ _ k0 k1 k2 k3 (zB.w hb_k0 (by decide) (by decide)) (zB.w hb_k1 (by decide) (by decide)) (zB.w hb_k2 (by decide) (by decide)) (zB.w hb_k3 (by decide) (by decide)) hP hS (zB.w (zb_c 0) (by decide) (by decide)) (zB.w (zb_c 0) (by decide) (by decide)) (by omega) (by omega) hq (lv_sub hl [2, 3, 4, 5, 1, 0] rfl)
      obtain ⟨hl_t, hh_t⟩ := id hb_t
      refine lv_iload hx hb d_S_seen_123 (lv_at hl 4 rfl) ?_
      exact zw_i hx hb hr hlocks hq ⟨k0, k1, k2, k3, zB.w hk0 (by decide) (by decide), zB.w hk1 (by decide) (by decide), zB.w hk2 (by decide) (by decide), zB.w hk3 (by decide) (by decide), hP⟩ hS d_S_seen_125
    · replace hq := (if_pos c_5).symm.trans hq
      have r_25 : zB 0 0 (f_S_isLevel d) := ⟨(Int.le_of_eq c_5.symm), (Int.le_of_eq c_5)⟩
      refine lv_iconst (v := zi (-1)) hx hb d_S_seen_15 rfl ?_
      exact zw_i hx hb hr hlocks hq ⟨k0, k1, k2, k3, zB.w hb_k0 (by decide) (by decide), zB.w hb_k1 (by decide) (by decide), zB.w hb_k2 (by decide) (by decide), zB.w hb_k3 (by decide) (by decide), hP⟩ hS d_S_seen_16
def f_S_light_l (S : Nat → Int → Int) (a : Int) (b : Int) (d : Int) (z : Int → Int) : Nat → Int → Int → Int
  | 0, _, _ => 0
  | k + 1, t, i => if i < (S 11 0) then (if (((S 2 a) + b) + (Int.tdiv (d * ((S 3 i) - (S 3 a))) 100)) < (S 2 i) then (t) else (f_S_light_l S a b d z k ((S 3 i) - (S 3 a)) (i + 1))) else (z t)
theorem f_S_light_l_s (S : Nat → Int → Int) (a : Int) (b : Int) (d : Int) (z : Int → Int) (k : Nat) (t i : Int) : f_S_light_l S a b d z (k + 1) t i = (if i < (S 11 0) then (if (((S 2 a) + b) + (Int.tdiv (d * ((S 3 i) - (S 3 a))) 100)) < (S 2 i) then (t) else (f_S_light_l S a b d z k ((S 3 i) - (S 3 a)) (i + 1))) else (z t)) := rfl
def f_S_light (S : Nat → Int → Int) (a b d : Int) : Int := if (f_S_isStation S a) = 0 then (-1) else (if (f_S_isWithin b 0 1000) = 0 then (-1) else (if (f_S_isWithin d 0 100) = 0 then (-1) else (f_S_light_l S a b d (fun t => t) 61 0 (a + 1))))
set_option maxHeartbeats 4000000 in
set_option maxRecDepth 100000 in
theorem k_S_light (l : Launch) (dC : Nat → ClassId) (dI : Nat → Nat → Nat) (ad : Nat → Nat) (cI : ClassId) (S : Nat → Int → Int) (k0 k1 k2 k3 : Int) (hI : iS S) (a b d : Int) (hb_a : zB (-2147483648) 2147483647 a) (hb_b : zB (-2147483648) 2147483647 b) (hb_d : zB (-2147483648) 2147483647 d) : Met l y_S_light (Cond.code y_S_light c_S_light 9 (some .int) :: zT) { frames := 1, cells := 0, slots := 0, locals := 22 } (va_Pc ([.ref (ad 0), .int (zi a), .int (zi b), .int (zi d)] : List Value) (zWS dC dI ad cI S k0 k1 k2 k3)) (zR (.int (zi (f_S_light S a b d)))) 0 0 (fun _ => False) := by
  refine zh (cc := c_S_light) (C := R_S) (by decide) rfl rfl (Nat.le_of_ble_eq_true rfl) ?_
  intro p e s m below meth c ls hx hb hr hlocks hml hown hname hts hl hB
  have hw : ∀ w9 ∈ zT, w9.before ([.ref (ad 0), .int (zi a), .int (zi b), .int (zi d)] : List Value).toArray s = true := fun w9 h => hts w9 (List.mem_cons_of_mem _ h)
  obtain ⟨hP, hK, hN⟩ := hB
  obtain ⟨hn0, hn1⟩ := id (iS_s0 hI)
  obtain ⟨hz0, hz1⟩ := id (iS_s6 hI)
  obtain ⟨hl_a, hh_a⟩ := id hb_a
  obtain ⟨hl_b, hh_b⟩ := id hb_b
  obtain ⟨hl_d, hh_d⟩ := id hb_d
  generalize hq : f_S_light S a b d = r
  unfold f_S_light at hq
  replace hl : lv_has ls 9 [(0, .ref (ad 0)), (1, .int (zi a)), (2, .int (zi b)), (3, .int (zi d))] := hl
  refine lv_aload_n hx hb d_S_light_0 rfl (lv_at hl 0 rfl) ?_
  refine lv_iload_n hx hb d_S_light_1 rfl (lv_at hl 1 rfl) ?_
  refine zc_n (va_runV (As := [.int (zi a)]) (rest := []) ⟨hx, hb, hml, hown, hts⟩ (k_S_isStation l dC dI ad cI S k0 k1 k2 k3 hI a (zB.w hb_a (by decide) (by decide)) ) (zcV 1 hts m_84 m_1 m_82 m_83 m_374 rfl rfl q_S_isStation ⟨Nat.le_of_ble_eq_true rfl, Nat.le_of_ble_eq_true rfl⟩) (zpS0 hP hK hN [.int (zi a)]) rfl rfl hl.1 rfl (lv_room (Nat.le_of_ble_eq_true rfl)) d_S_light_2 ⟨Nat.zero_le _, Nat.zero_le _⟩) ?_
  refine zr_if_eq (tgt := 29) hx hb (zB.I (bb_S_isStation S a) (by decide) (by decide)) d_S_light_5 (by decide) (fun c_1 => ?_) (fun c_1 => ?_)
  · replace hq := (if_pos c_1).symm.trans hq
    have r_2 : zB 0 0 (f_S_isStation S a) := ⟨(Int.le_of_eq c_1.symm), (Int.le_of_eq c_1)⟩
    refine lv_iconst (v := zi (-1)) hx hb d_S_light_29 rfl ?_
    exact ze_i hx hb hr hlocks hq d_S_light_30
  · replace hq := (if_neg c_1).symm.trans hq
    have r_3 : zB 1 1 (f_S_isStation S a) := ⟨(by have := (bb_S_isStation S a).1; omega), (bb_S_isStation S a).2⟩
    have g_4 := gf_S_isStation hI c_1
    obtain ⟨g_4l, g_4h⟩ := id g_4.1
    have g_4n := g_4.2
    refine lv_iload_n hx hb d_S_light_8 rfl (lv_at hl 2 rfl) ?_
    refine lv_iconst (v := zi 0) hx hb d_S_light_9 rfl ?_
    refine lv_sipush (v := zi 1000) hx hb d_S_light_10 (by decide) ?_
    refine zc_n (va_runS (As := [.int (zi b), .int (zi 0), .int (zi 1000)]) (rest := []) ⟨hx, hb, hml, hown, hts⟩ (k_S_isWithin l b 0 1000 (zB.w hb_b (by decide) (by decide)) (zB.w (zb_c 0) (by decide) (by decide)) (zB.w (zb_c 1000) (by decide) (by decide)) ) (zcS 3 hts m_53 m_1 m_51 m_52 rfl rfl q_S_isWithin ⟨Nat.le_of_ble_eq_true rfl, Nat.le_of_ble_eq_true rfl⟩) (zp0 [.int (zi b), .int (zi 0), .int (zi 1000)]) rfl rfl hl.1 rfl (lv_room (Nat.le_of_ble_eq_true rfl)) d_S_light_13 ⟨Nat.zero_le _, Nat.zero_le _⟩) ?_
    refine zr_if_eq (tgt := 29) hx hb (zB.I (bb_S_isWithin b 0 1000) (by decide) (by decide)) d_S_light_16 (by decide) (fun c_5 => ?_) (fun c_5 => ?_)
    · replace hq := (if_pos c_5).symm.trans hq
      have r_6 : zB 0 0 (f_S_isWithin b 0 1000) := ⟨(Int.le_of_eq c_5.symm), (Int.le_of_eq c_5)⟩
      refine lv_iconst (v := zi (-1)) hx hb d_S_light_29 rfl ?_
      exact ze_i hx hb hr hlocks hq d_S_light_30
    · replace hq := (if_neg c_5).symm.trans hq
      have r_7 : zB 1 1 (f_S_isWithin b 0 1000) := ⟨(by have := (bb_S_isWithin b 0 1000).1; omega), (bb_S_isWithin b 0 1000).2⟩
      have g_8 := gf_S_isWithin c_5
      obtain ⟨g_8l, g_8h⟩ := id g_8
      refine lv_iload_n hx hb d_S_light_19 rfl (lv_at hl 3 rfl) ?_
      refine lv_iconst (v := zi 0) hx hb d_S_light_20 rfl ?_
      refine lv_bipush (v := zi 100) hx hb d_S_light_21 (by decide) ?_
      refine zc_n (va_runS (As := [.int (zi d), .int (zi 0), .int (zi 100)]) (rest := []) ⟨hx, hb, hml, hown, hts⟩ (k_S_isWithin l d 0 100 (zB.w hb_d (by decide) (by decide)) (zB.w (zb_c 0) (by decide) (by decide)) (zB.w (zb_c 100) (by decide) (by decide)) ) (zcS 3 hts m_53 m_1 m_51 m_52 rfl rfl q_S_isWithin ⟨Nat.le_of_ble_eq_true rfl, Nat.le_of_ble_eq_true rfl⟩) (zp0 [.int (zi d), .int (zi 0), .int (zi 100)]) rfl rfl hl.1 rfl (lv_room (Nat.le_of_ble_eq_true rfl)) d_S_light_23 ⟨Nat.zero_le _, Nat.zero_le _⟩) ?_
      refine zr_if_ne (tgt := 31) hx hb (zB.I (bb_S_isWithin d 0 100) (by decide) (by decide)) d_S_light_26 (by decide) (fun c_9 => ?_) (fun c_9 => ?_)
      · replace hq := (if_neg c_9).symm.trans hq
        have r_10 : zB 1 1 (f_S_isWithin d 0 100) := ⟨(by have := (bb_S_isWithin d 0 100).1; omega), (bb_S_isWithin d 0 100).2⟩
        have g_11 := gf_S_isWithin c_9
        obtain ⟨g_11l, g_11h⟩ := id g_11
        refine lv_iconst (v := zi 0) hx hb d_S_light_31 rfl ?_
        refine lv_istore (lv' := [(4, .int (zi 0)), (0, .ref (ad 0)), (1, .int (zi a)), (2, .int (zi b)), (3, .int (zi d))]) hx hb d_S_light_32 hl (by decide) rfl (fun ls hl => ?_)
        refine lv_iload_n hx hb d_S_light_34 rfl (lv_at hl 2 rfl) ?_
        refine lv_iconst (v := zi 1) hx hb d_S_light_35 rfl ?_
        have b_12 : zB 1 60 (a + 1) := zB.w (zb_add g_4.1 (zb_c 1)) (by decide) (by decide)
        refine zr_iadd hx hb d_S_light_36 ?_
        refine lv_istore (lv' := [(5, .int (zi (a + 1))), (4, .int (zi 0)), (0, .ref (ad 0)), (1, .int (zi a)), (2, .int (zi b)), (3, .int (zi d))]) hx hb d_S_light_37 hl (by decide) rfl (fun ls hl => ?_)
        have L_l : ∀ (z : Int → Int), (∀ (t : Int), zB (-2545620) 2545620 t → ∀ (ls : Array Slot), z t = r → lv_has ls 9 [(0, .ref (ad 0)), (1, .int (zi a)), (2, .int (zi b)), (3, .int (zi d)), (4, .int (zi t))] → W p l e { frames := 1, cells := 0, slots := 0, locals := 22 } s m ([.ref (ad 0), .int (zi a), .int (zi b), .int (zi d)] : List Value).toArray below meth c s.heap [] 0 0 (MQ below (zR (.int (zi r))) ([.ref (ad 0), .int (zi a), .int (zi b), .int (zi d)] : List Value).toArray s 0 0 (fun _ => False)) (F0 m 113 ls [])) → ∀ (k : Nat) (t i : Int) (ls : Array Slot), zB (-2545620) 2545620 t → zB 1 60 i → 60 - i < (k : Int) → f_S_light_l S a b d z k t i = r → lv_has ls 9 [(0, .ref (ad 0)), (1, .int (zi a)), (2, .int (zi b)), (3, .int (zi d)), (4, .int (zi t)), (5, .int (zi i))] → W p l e { frames := 1, cells := 0, slots := 0, locals := 22 } s m ([.ref (ad 0), .int (zi a), .int (zi b), .int (zi d)] : List Value).toArray below meth c s.heap [] 0 0 (MQ below (zR (.int (zi r))) ([.ref (ad 0), .int (zi a), .int (zi b), .int (zi d)] : List Value).toArray s 0 0 (fun _ => False)) (F0 m 39 ls []) := by
          intro z hz k
          induction k with
          | zero =>
            intro t i ls hb_t hb_i  hk hq hl
            exact absurd hk (by have := hb_t.1; have := hb_t.2; have := hb_i.1; have := hb_i.2; omega)
          | succ k ih =>
            intro t i ls hb_t hb_i  hk hq hl
            obtain ⟨hl_t, hh_t⟩ := id hb_t
            obtain ⟨hl_i, hh_i⟩ := id hb_i
            replace hq := (f_S_light_l_s S a b d z k t i).symm.trans hq
            refine lv_iload hx hb d_S_light_39 (lv_at hl 5 rfl) ?_
            refine lv_aload_n hx hb d_S_light_41 rfl (lv_at hl 0 rfl) ?_
            refine va_get (D := (dC, dI)) (ci := 1) (v := .int (zi (S 11 0))) (C := R_S) (T := T_S) (N := 13) hx hb hw i_S hown hK hP 0 rfl rfl 7 (by decide) (hw _ m_38) (fun _ h9 => h9) rfl d_S_light_42 ?_
            refine zr_icmp_ge (tgt := 113) hx hb (zB.I hb_i (by decide) (by decide)) (zB.I (iS_s0 hI) (by decide) (by decide)) d_S_light_45 (by decide) (fun c_13 => ?_) (fun c_13 => ?_)
            · replace hq := (if_neg c_13).symm.trans hq
              exact hz t (zB.w hb_t (by decide) (by decide)) ls hq (lv_sub hl [0, 1, 2, 3, 4] rfl)
            · replace hq := (if_pos c_13).symm.trans hq
              refine lv_aload_n hx hb d_S_light_48 rfl (lv_at hl 0 rfl) ?_
              refine va_get (D := (dC, dI)) (ci := 1) (v := .ref (ad 4)) (C := R_S) (T := T_S) (N := 13) hx hb hw i_S hown hK hP 0 rfl rfl 3 (by decide) (hw _ m_34) (fun _ h9 => h9) rfl d_S_light_49 ?_
              refine lv_iload hx hb d_S_light_52 (lv_at hl 5 rfl) ?_
              refine zr_iald hx hb hK hP 4 0 (cA := cI) (n := 60) (g := S 3) rfl rfl (i := i) (by omega) (by omega) (by decide) d_S_light_54 ?_
              refine lv_aload_n hx hb d_S_light_55 rfl (lv_at hl 0 rfl) ?_
              refine va_get (D := (dC, dI)) (ci := 1) (v := .ref (ad 4)) (C := R_S) (T := T_S) (N := 13) hx hb hw i_S hown hK hP 0 rfl rfl 3 (by decide) (hw _ m_34) (fun _ h9 => h9) rfl d_S_light_56 ?_
              refine lv_iload_n hx hb d_S_light_59 rfl (lv_at hl 1 rfl) ?_
              refine zr_iald hx hb hK hP 4 0 (cA := cI) (n := 60) (g := S 3) rfl rfl (i := a) (by omega) (by omega) (by decide) d_S_light_60 ?_
              have b_14 : zB (-2545620) 2545620 ((S 3 i) - (S 3 a)) := zB.w (zb_sub (iS_a3 hI i) (iS_a3 hI a)) (by decide) (by decide)
              refine zr_isub hx hb d_S_light_61 ?_
              refine lv_istore (lv' := [(6, .int (zi ((S 3 i) - (S 3 a)))), (0, .ref (ad 0)), (1, .int (zi a)), (2, .int (zi b)), (3, .int (zi d)), (4, .int (zi t)), (5, .int (zi i))]) hx hb d_S_light_62 hl (by decide) rfl (fun ls hl => ?_)
              refine lv_aload_n hx hb d_S_light_64 rfl (lv_at hl 1 rfl) ?_
              refine va_get (D := (dC, dI)) (ci := 1) (v := .ref (ad 3)) (C := R_S) (T := T_S) (N := 13) hx hb hw i_S hown hK hP 0 rfl rfl 2 (by decide) (hw _ m_33) (fun _ h9 => h9) rfl d_S_light_65 ?_
              refine lv_iload_n hx hb d_S_light_68 rfl (lv_at hl 2 rfl) ?_
              refine zr_iald hx hb hK hP 3 0 (cA := cI) (n := 60) (g := S 2) rfl rfl (i := a) (by omega) (by omega) (by decide) d_S_light_69 ?_
              refine lv_iload_n hx hb d_S_light_70 rfl (lv_at hl 3 rfl) ?_
              have b_15 : zB (-100000) 101000 ((S 2 a) + b) := zB.w (zb_add (iS_a2 hI a) g_8) (by decide) (by decide)
              refine zr_iadd hx hb d_S_light_71 ?_
              refine zr_i2l hx hb (zB.I b_15 (by decide) (by decide)) d_S_light_72 ?_
              refine lv_iload_n hx hb d_S_light_73 rfl (lv_at hl 4 rfl) ?_
              refine zr_i2l hx hb (zB.I g_11 (by decide) (by decide)) d_S_light_74 ?_
              refine lv_iload hx hb d_S_light_75 (lv_at hl 0 rfl) ?_
              refine zr_i2l hx hb (zB.I b_14 (by decide) (by decide)) d_S_light_77 ?_
              have b_16 : zB (-254562000) 254562000 (d * ((S 3 i) - (S 3 a))) := zB.w (zb_mul (A := 100) (B := 2545620) (zB.w g_11 (by decide) (by decide)) (zB.w b_14 (by decide) (by decide))) (by decide) (by decide)
              refine zr_lmul hx hb d_S_light_78 ?_
              refine lv_ldc2 (v := zl 100) hx hb hown (hw _ m_209) d_S_light_79 ?_
              refine zr_ldiv hx hb (zB.L b_16 (by decide) (by decide)) (zB.L (zb_c 100) (by decide) (by decide)) (Int.lt_of_lt_of_le (by decide) (zb_c 100).1) d_S_light_82 ?_
              have b_17 : zB (-254562000) 254562000 (Int.tdiv (d * ((S 3 i) - (S 3 a))) 100) := zB.w (zb_tdiv (A := 254562000) (b := 100) (zB.w b_16 (by decide) (by decide))) (by decide) (by decide)
              have b_18 : zB (-254662000) 254663000 (((S 2 a) + b) + (Int.tdiv (d * ((S 3 i) - (S 3 a))) 100)) := zB.w (zb_add b_15 b_17) (by decide) (by decide)
              refine zr_ladd hx hb d_S_light_83 ?_
              refine lv_lstore (lv' := [(7, .long (zl (((S 2 a) + b) + (Int.tdiv (d * ((S 3 i) - (S 3 a))) 100)))), (6, .int (zi ((S 3 i) - (S 3 a)))), (0, .ref (ad 0)), (1, .int (zi a)), (2, .int (zi b)), (3, .int (zi d)), (4, .int (zi t)), (5, .int (zi i))]) hx hb d_S_light_84 hl (by decide) rfl (fun ls hl => ?_)
              refine lv_aload_n hx hb d_S_light_86 rfl (lv_at hl 2 rfl) ?_
              refine va_get (D := (dC, dI)) (ci := 1) (v := .ref (ad 3)) (C := R_S) (T := T_S) (N := 13) hx hb hw i_S hown hK hP 0 rfl rfl 2 (by decide) (hw _ m_33) (fun _ h9 => h9) rfl d_S_light_87 ?_
              refine lv_iload hx hb d_S_light_90 (lv_at hl 7 rfl) ?_
              refine zr_iald hx hb hK hP 3 0 (cA := cI) (n := 60) (g := S 2) rfl rfl (i := i) (by omega) (by omega) (by decide) d_S_light_92 ?_
              refine zr_i2l hx hb (zB.I (iS_a2 hI i) (by decide) (by decide)) d_S_light_93 ?_
              refine lv_lload hx hb d_S_light_94 (lv_at hl 0 rfl) ?_
              refine zr_lcmp_le (tgt := 103) hx hb (zB.L (iS_a2 hI i) (by decide) (by decide)) (zB.L b_18 (by decide) (by decide)) d_S_light_96 d_S_light_97 (by decide) (fun c_19 => ?_) (fun c_19 => ?_)
              · replace hq := (if_neg c_19).symm.trans hq
                refine lv_iload hx hb d_S_light_103 (lv_at hl 1 rfl) ?_
                refine lv_istore (lv' := [(4, .int (zi ((S 3 i) - (S 3 a)))), (7, .long (zl (((S 2 a) + b) + (Int.tdiv (d * ((S 3 i) - (S 3 a))) 100)))), (6, .int (zi ((S 3 i) - (S 3 a)))), (0, .ref (ad 0)), (1, .int (zi a)), (2, .int (zi b)), (3, .int (zi d)), (5, .int (zi i))]) hx hb d_S_light_105 hl (by decide) rfl (fun ls hl => ?_)
                have b_20 : zB 2 61 (i + 1) := zB.w (zb_add hb_i (zb_c 1)) (by decide) (by decide)
                refine lv_iinc (v := zi (i + 1)) (lv' := [(5, .int (zi (i + 1))), (4, .int (zi ((S 3 i) - (S 3 a)))), (7, .long (zl (((S 2 a) + b) + (Int.tdiv (d * ((S 3 i) - (S 3 a))) 100)))), (6, .int (zi ((S 3 i) - (S 3 a)))), (0, .ref (ad 0)), (1, .int (zi a)), (2, .int (zi b)), (3, .int (zi d))]) hx hb d_S_light_107 hl (k := 7) rfl (zi_add _ _) (by decide) rfl (fun ls hl => ?_)
                refine lv_goto (tgt := 39) hx hb d_S_light_110 (by decide) ?_
                exact ih ((S 3 i) - (S 3 a)) (i + 1) ls (zB.w b_14 (by decide) (by decide)) ⟨by have h9 := b_20.1; have h8 := b_20.2; omega, by have h9 := b_20.1; have h8 := b_20.2; omega⟩  (by omega) hq (lv_sub hl [4, 5, 6, 7, 1, 0] rfl)
              · replace hq := (if_pos c_19).symm.trans hq
                refine lv_iload hx hb d_S_light_100 (lv_at hl 6 rfl) ?_
                exact ze_i hx hb hr hlocks hq d_S_light_102
        refine L_l _ (fun t hb_t ls hq hl => ?_) 61 0 (a + 1) ls (zB.w (zb_c 0) (by decide) (by decide)) (zB.w b_12 (by decide) (by decide))  (by omega) hq (lv_sub hl [2, 3, 4, 5, 1, 0] rfl)
        obtain ⟨hl_t, hh_t⟩ := id hb_t
        refine lv_iload hx hb d_S_light_113 (lv_at hl 4 rfl) ?_
        exact ze_i hx hb hr hlocks hq d_S_light_115
      · replace hq := (if_pos c_9).symm.trans hq
        have r_21 : zB 0 0 (f_S_isWithin d 0 100) := ⟨(Int.le_of_eq c_9.symm), (Int.le_of_eq c_9)⟩
        refine lv_iconst (v := zi (-1)) hx hb d_S_light_29 rfl ?_
        exact ze_i hx hb hr hlocks hq d_S_light_30
def f_S_count (S : Nat → Int → Int) (a : Int) : Int := if a = 0 then (S 11 0) else (if a = 1 then (S 11 6) else (if a = 2 then (S 11 1) else (if a = 3 then (f_S_freeViews S) else (if a = 4 then (f_S_blindStations S 0) else (if a = 5 then (f_S_blindStations S 1) else (-1))))))
set_option maxHeartbeats 4000000 in
set_option maxRecDepth 100000 in
theorem k_S_count (l : Launch) (dC : Nat → ClassId) (dI : Nat → Nat → Nat) (ad : Nat → Nat) (cI : ClassId) (S : Nat → Int → Int) (k0 k1 k2 k3 : Int) (hI : iS S) (hj : zJ 13 ad) (hb_k0 : zB (-30000) 30000 k0) (hb_k1 : zB (-30000) 30000 k1) (hb_k2 : zB (-30000) 30000 k2) (hb_k3 : zB (-30000) 30000 k3) (a : Int) (hb_a : zB (-2147483648) 2147483647 a) : Met l y_S_count (Cond.code y_S_count c_S_count 2 (some .int) :: zT) { frames := 7, cells := 0, slots := 0, locals := 167 } (va_Pc ([.ref (ad 0), .int (zi a)] : List Value) (zWS dC dI ad cI S k0 k1 k2 k3)) (zQ (some (.int (zi (f_S_count S a)))) (fun H => ∃ k0 k1 k2 k3 : Int, zB (-30000) 30000 k0 ∧ zB (-30000) 30000 k1 ∧ zB (-30000) 30000 k2 ∧ zB (-30000) 30000 k3 ∧ va_P (dC, dI) classes (wS ad cI S k0 k1 k2 k3) H) (zAS ad)) 0 0 (zAS ad) := by
  refine zh (cc := c_S_count) (C := R_S) (by decide) rfl rfl (Nat.le_of_ble_eq_true rfl) ?_
  intro p e s m below meth c ls hx hb hr hlocks hml hown hname hts hl hB
  have hw : ∀ w9 ∈ zT, w9.before ([.ref (ad 0), .int (zi a)] : List Value).toArray s = true := fun w9 h => hts w9 (List.mem_cons_of_mem _ h)
  obtain ⟨hP, hK, hN⟩ := hB
  obtain ⟨hn0, hn1⟩ := id (iS_s0 hI)
  have hD := zDS hj cI
  have hS : va_S (zAS ad) s.heap s.heap [] := va_S.rf
  obtain ⟨hz0, hz1⟩ := id (iS_s6 hI)
  obtain ⟨hl_a, hh_a⟩ := id hb_a
  generalize hq : f_S_count S a = r
  unfold f_S_count at hq
  replace hl : lv_has ls 2 [(0, .ref (ad 0)), (1, .int (zi a))] := hl
  refine lv_iload_n hx hb d_S_count_0 rfl (lv_at hl 1 rfl) ?_
  by_cases c_1 : a = 0
  · replace hq := (if_pos c_1).symm.trans hq
    refine lv_tableIn (tgt := 40) (off := 39) hx hb d_S_count_1 (by rw [zi_t (zB.I hb_a (by decide) (by decide))]; omega) (by rw [zi_t (zB.I hb_a (by decide) (by decide))]; omega) (by rw [zi_t (zB.I hb_a (by decide) (by decide)), c_1]; rfl) (by decide) ?_
    refine lv_aload_n hx hb d_S_count_40 rfl (lv_at hl 0 rfl) ?_
    refine va_get (D := (dC, dI)) (ci := 1) (v := .int (zi (S 11 0))) (C := R_S) (T := T_S) (N := 13) hx hb hw i_S hown hK hP 0 rfl rfl 7 (by decide) (hw _ m_38) (fun _ h9 => h9) rfl d_S_count_41 ?_
    exact zw_i hx hb hr hlocks hq ⟨k0, k1, k2, k3, zB.w hb_k0 (by decide) (by decide), zB.w hb_k1 (by decide) (by decide), zB.w hb_k2 (by decide) (by decide), zB.w hb_k3 (by decide) (by decide), hP⟩ hS d_S_count_44
  · replace hq := (if_neg c_1).symm.trans hq
    by_cases c_2 : a = 1
    · replace hq := (if_pos c_2).symm.trans hq
      refine lv_tableIn (tgt := 45) (off := 44) hx hb d_S_count_1 (by rw [zi_t (zB.I hb_a (by decide) (by decide))]; omega) (by rw [zi_t (zB.I hb_a (by decide) (by decide))]; omega) (by rw [zi_t (zB.I hb_a (by decide) (by decide)), c_2]; rfl) (by decide) ?_
      refine lv_aload_n hx hb d_S_count_45 rfl (lv_at hl 0 rfl) ?_
      refine va_get (D := (dC, dI)) (ci := 1) (v := .ref (ad 7)) (C := R_S) (T := T_S) (N := 13) hx hb hw i_S hown hK hP 0 rfl rfl 6 (by decide) (hw _ m_37) (fun _ h9 => h9) rfl d_S_count_46 ?_
      refine va_getN (D := (dC, dI)) (ci := 0) (v := .int (zi (S 11 6))) (C := R_B) (T := T_B) (N := 10) hx hb hw i_B hown hK hP 7 rfl rfl 5 (by decide) (va_Nw.use rfl hN.2.1) (fun _ h9 => h9) rfl d_S_count_49 ?_
      exact zw_i hx hb hr hlocks hq ⟨k0, k1, k2, k3, zB.w hb_k0 (by decide) (by decide), zB.w hb_k1 (by decide) (by decide), zB.w hb_k2 (by decide) (by decide), zB.w hb_k3 (by decide) (by decide), hP⟩ hS d_S_count_52
    · replace hq := (if_neg c_2).symm.trans hq
      by_cases c_3 : a = 2
      · replace hq := (if_pos c_3).symm.trans hq
        refine lv_tableIn (tgt := 53) (off := 52) hx hb d_S_count_1 (by rw [zi_t (zB.I hb_a (by decide) (by decide))]; omega) (by rw [zi_t (zB.I hb_a (by decide) (by decide))]; omega) (by rw [zi_t (zB.I hb_a (by decide) (by decide)), c_3]; rfl) (by decide) ?_
        refine lv_aload_n hx hb d_S_count_53 rfl (lv_at hl 0 rfl) ?_
        refine va_get (D := (dC, dI)) (ci := 1) (v := .int (zi (S 11 1))) (C := R_S) (T := T_S) (N := 13) hx hb hw i_S hown hK hP 0 rfl rfl 8 (by decide) (hw _ m_39) (fun _ h9 => h9) rfl d_S_count_54 ?_
        exact zw_i hx hb hr hlocks hq ⟨k0, k1, k2, k3, zB.w hb_k0 (by decide) (by decide), zB.w hb_k1 (by decide) (by decide), zB.w hb_k2 (by decide) (by decide), zB.w hb_k3 (by decide) (by decide), hP⟩ hS d_S_count_57
      · replace hq := (if_neg c_3).symm.trans hq
        by_cases c_4 : a = 3
        · replace hq := (if_pos c_4).symm.trans hq
          refine lv_tableIn (tgt := 58) (off := 57) hx hb d_S_count_1 (by rw [zi_t (zB.I hb_a (by decide) (by decide))]; omega) (by rw [zi_t (zB.I hb_a (by decide) (by decide))]; omega) (by rw [zi_t (zB.I hb_a (by decide) (by decide)), c_4]; rfl) (by decide) ?_
          refine lv_aload_n hx hb d_S_count_58 rfl (lv_at hl 0 rfl) ?_
          refine zc_w (va_runV (As := []) (rest := []) ⟨hx, hb, hml, hown, hts⟩ (k_S_freeViews l dC dI ad cI S k0 k1 k2 k3 hI hj (zB.w hb_k0 (by decide) (by decide)) (zB.w hb_k1 (by decide) (by decide)) (zB.w hb_k2 (by decide) (by decide)) (zB.w hb_k3 (by decide) (by decide))   ) (zcV 0 hts m_216 m_1 m_214 m_215 m_390 rfl rfl q_S_freeViews ⟨Nat.le_of_ble_eq_true rfl, Nat.le_of_ble_eq_true rfl⟩) (zpS0 hP hK hN []) rfl rfl hl.1 rfl (lv_room (Nat.le_of_ble_eq_true rfl)) d_S_count_59 ⟨Nat.zero_le _, Nat.zero_le _⟩) hS (fun q _ h => h) (fun q h => h) (fun H locs hP hz1 hk1 hS => ?_)
          clear hz1 hk1
          obtain ⟨k0_e_5, k1_e_5, k2_e_5, k3_e_5, hk0_e_5, hk1_e_5, hk2_e_5, hk3_e_5, hP⟩ := hP
          exact zw_i hx hb hr hlocks hq ⟨k0_e_5, k1_e_5, k2_e_5, k3_e_5, zB.w hk0_e_5 (by decide) (by decide), zB.w hk1_e_5 (by decide) (by decide), zB.w hk2_e_5 (by decide) (by decide), zB.w hk3_e_5 (by decide) (by decide), hP⟩ hS d_S_count_62
        · replace hq := (if_neg c_4).symm.trans hq
          by_cases c_6 : a = 4
          · replace hq := (if_pos c_6).symm.trans hq
            refine lv_tableIn (tgt := 63) (off := 62) hx hb d_S_count_1 (by rw [zi_t (zB.I hb_a (by decide) (by decide))]; omega) (by rw [zi_t (zB.I hb_a (by decide) (by decide))]; omega) (by rw [zi_t (zB.I hb_a (by decide) (by decide)), c_6]; rfl) (by decide) ?_
            refine lv_aload_n hx hb d_S_count_63 rfl (lv_at hl 0 rfl) ?_
            refine lv_iconst (v := zi 0) hx hb d_S_count_64 rfl ?_
            refine zc_w (va_runV (As := [.int (zi 0)]) (rest := []) ⟨hx, hb, hml, hown, hts⟩ (k_S_blindStations l dC dI ad cI S k0 k1 k2 k3 hI hj (zB.w hb_k0 (by decide) (by decide)) (zB.w hb_k1 (by decide) (by decide)) (zB.w hb_k2 (by decide) (by decide)) (zB.w hb_k3 (by decide) (by decide)) 0 (zB.w (zb_c 0) (by decide) (by decide)) ) (zcV 1 hts m_219 m_1 m_217 m_218 m_391 rfl rfl q_S_blindStations ⟨Nat.le_of_ble_eq_true rfl, Nat.le_of_ble_eq_true rfl⟩) (zpS0 hP hK hN [.int (zi 0)]) rfl rfl hl.1 rfl (lv_room (Nat.le_of_ble_eq_true rfl)) d_S_count_65 ⟨Nat.zero_le _, Nat.zero_le _⟩) hS (fun q _ h => h) (fun q h => h) (fun H locs hP hz1 hk1 hS => ?_)
            clear hz1 hk1
            obtain ⟨k0_e_7, k1_e_7, k2_e_7, k3_e_7, hk0_e_7, hk1_e_7, hk2_e_7, hk3_e_7, hP⟩ := hP
            exact zw_i hx hb hr hlocks hq ⟨k0_e_7, k1_e_7, k2_e_7, k3_e_7, zB.w hk0_e_7 (by decide) (by decide), zB.w hk1_e_7 (by decide) (by decide), zB.w hk2_e_7 (by decide) (by decide), zB.w hk3_e_7 (by decide) (by decide), hP⟩ hS d_S_count_68
          · replace hq := (if_neg c_6).symm.trans hq
            by_cases c_8 : a = 5
            · replace hq := (if_pos c_8).symm.trans hq
              refine lv_tableIn (tgt := 69) (off := 68) hx hb d_S_count_1 (by rw [zi_t (zB.I hb_a (by decide) (by decide))]; omega) (by rw [zi_t (zB.I hb_a (by decide) (by decide))]; omega) (by rw [zi_t (zB.I hb_a (by decide) (by decide)), c_8]; rfl) (by decide) ?_
              refine lv_aload_n hx hb d_S_count_69 rfl (lv_at hl 0 rfl) ?_
              refine lv_iconst (v := zi 1) hx hb d_S_count_70 rfl ?_
              refine zc_w (va_runV (As := [.int (zi 1)]) (rest := []) ⟨hx, hb, hml, hown, hts⟩ (k_S_blindStations l dC dI ad cI S k0 k1 k2 k3 hI hj (zB.w hb_k0 (by decide) (by decide)) (zB.w hb_k1 (by decide) (by decide)) (zB.w hb_k2 (by decide) (by decide)) (zB.w hb_k3 (by decide) (by decide)) 1 (zB.w (zb_c 1) (by decide) (by decide)) ) (zcV 1 hts m_219 m_1 m_217 m_218 m_391 rfl rfl q_S_blindStations ⟨Nat.le_of_ble_eq_true rfl, Nat.le_of_ble_eq_true rfl⟩) (zpS0 hP hK hN [.int (zi 1)]) rfl rfl hl.1 rfl (lv_room (Nat.le_of_ble_eq_true rfl)) d_S_count_71 ⟨Nat.zero_le _, Nat.zero_le _⟩) hS (fun q _ h => h) (fun q h => h) (fun H locs hP hz1 hk1 hS => ?_)
              clear hz1 hk1
              obtain ⟨k0_e_9, k1_e_9, k2_e_9, k3_e_9, hk0_e_9, hk1_e_9, hk2_e_9, hk3_e_9, hP⟩ := hP
              exact zw_i hx hb hr hlocks hq ⟨k0_e_9, k1_e_9, k2_e_9, k3_e_9, zB.w hk0_e_9 (by decide) (by decide), zB.w hk1_e_9 (by decide) (by decide), zB.w hk2_e_9 (by decide) (by decide), zB.w hk3_e_9 (by decide) (by decide), hP⟩ hS d_S_count_74
            · replace hq := (if_neg c_8).symm.trans hq
              refine lv_tableOut (tgt := 75) hx hb d_S_count_1 (by rw [zi_t (zB.I hb_a (by decide) (by decide))]; omega) (by decide) ?_
              refine lv_iconst (v := zi (-1)) hx hb d_S_count_75 rfl ?_
              exact zw_i hx hb hr hlocks hq ⟨k0, k1, k2, k3, zB.w hb_k0 (by decide) (by decide), zB.w hb_k1 (by decide) (by decide), zB.w hb_k2 (by decide) (by decide), zB.w hb_k3 (by decide) (by decide), hP⟩ hS d_S_count_76
