def f_S_isWithin (a b d : Int) : Int := if a < b then (0) else (if d < a then (0) else (1))
theorem bb_S_isWithin (a b d : Int) : zB 0 1 (f_S_isWithin a b d) := by
  unfold f_S_isWithin
  repeat' split
  all_goals first | exact ⟨by decide, by decide⟩ 
theorem gf_S_isWithin {a b d : Int} (h : ¬ f_S_isWithin a b d = 0) : zB b d a := by
  unfold f_S_isWithin at h
  by_cases h1 : a < b
  · rw [if_pos h1] at h; exact absurd rfl h
  · rw [if_neg h1] at h
    by_cases h2 : d < a
    · rw [if_pos h2] at h; exact absurd rfl h
    · exact ⟨by omega, by omega⟩
set_option maxHeartbeats 4000000 in
set_option maxRecDepth 100000 in
theorem k_S_isWithin (l : Launch) (a b d : Int) (hb_a : zB (-2147483648) 2147483647 a) (hb_b : zB (-2147483648) 2147483647 b) (hb_d : zB (-2147483648) 2147483647 d) : Met l y_S_isWithin (Cond.code y_S_isWithin c_S_isWithin 3 (some .boolean) :: zT) { frames := 0, cells := 0, slots := 0, locals := 0 } (va_Pc ([.int (zi a), .int (zi b), .int (zi d)] : List Value) (fun _ => True)) (zR (.int (zi (f_S_isWithin a b d)))) 0 0 (fun _ => False) := by
  refine zh (cc := c_S_isWithin) (C := R_S) (by decide) rfl rfl (Nat.le_of_ble_eq_true rfl) ?_
  intro p e s m below meth c ls hx hb hr hlocks hml hown hname hts hl hB
  have hw : ∀ w9 ∈ zT, w9.before ([.int (zi a), .int (zi b), .int (zi d)] : List Value).toArray s = true := fun w9 h => hts w9 (List.mem_cons_of_mem _ h)
  obtain ⟨hl_a, hh_a⟩ := id hb_a
  obtain ⟨hl_b, hh_b⟩ := id hb_b
  obtain ⟨hl_d, hh_d⟩ := id hb_d
  generalize hq : f_S_isWithin a b d = r
  unfold f_S_isWithin at hq
  replace hl : lv_has ls 3 [(0, .int (zi a)), (1, .int (zi b)), (2, .int (zi d))] := hl
  refine lv_iload_n hx hb d_S_isWithin_0 rfl (lv_at hl 0 rfl) ?_
  refine lv_iload_n hx hb d_S_isWithin_1 rfl (lv_at hl 1 rfl) ?_
  refine zr_icmp_lt (tgt := 14) hx hb (zB.I hb_a (by decide) (by decide)) (zB.I hb_b (by decide) (by decide)) d_S_isWithin_2 (by decide) (fun c_1 => ?_) (fun c_1 => ?_)
  · replace hq := (if_pos c_1).symm.trans hq
    refine lv_iconst (v := zi 0) hx hb d_S_isWithin_14 rfl ?_
    exact ze_z hx hb hr hlocks (zB.w (zb_c 0) (by decide) (by decide)) hq d_S_isWithin_15
  · replace hq := (if_neg c_1).symm.trans hq
    refine lv_iload_n hx hb d_S_isWithin_5 rfl (lv_at hl 0 rfl) ?_
    refine lv_iload_n hx hb d_S_isWithin_6 rfl (lv_at hl 2 rfl) ?_
    refine zr_icmp_gt (tgt := 14) hx hb (zB.I hb_a (by decide) (by decide)) (zB.I hb_d (by decide) (by decide)) d_S_isWithin_7 (by decide) (fun c_2 => ?_) (fun c_2 => ?_)
    · replace hq := (if_pos c_2).symm.trans hq
      refine lv_iconst (v := zi 0) hx hb d_S_isWithin_14 rfl ?_
      exact ze_z hx hb hr hlocks (zB.w (zb_c 0) (by decide) (by decide)) hq d_S_isWithin_15
    · replace hq := (if_neg c_2).symm.trans hq
      refine lv_iconst (v := zi 1) hx hb d_S_isWithin_10 rfl ?_
      refine lv_goto (tgt := 15) hx hb d_S_isWithin_11 (by decide) ?_
      exact ze_z hx hb hr hlocks (zB.w (zb_c 1) (by decide) (by decide)) hq d_S_isWithin_15
def f_S_isInPlane (a b : Int) : Int := if (f_S_isWithin a (-15000) 15000) = 0 then (0) else (if (f_S_isWithin b (-15000) 15000) = 0 then (0) else (1))
theorem bb_S_isInPlane (a b : Int) : zB 0 1 (f_S_isInPlane a b) := by
  unfold f_S_isInPlane
  repeat' split
  all_goals first | exact ⟨by decide, by decide⟩  | apply bb_S_isWithin
theorem gf_S_isInPlane {a b : Int} (h : ¬ f_S_isInPlane a b = 0) : zB (-15000) 15000 a ∧ zB (-15000) 15000 b := by
  unfold f_S_isInPlane at h
  by_cases h1 : f_S_isWithin a (-15000) 15000 = 0
  · rw [if_pos h1] at h; exact absurd rfl h
  · rw [if_neg h1] at h
    by_cases h2 : f_S_isWithin b (-15000) 15000 = 0
    · rw [if_pos h2] at h; exact absurd rfl h
    · exact ⟨gf_S_isWithin h1, gf_S_isWithin h2⟩
set_option maxHeartbeats 4000000 in
set_option maxRecDepth 100000 in
theorem k_S_isInPlane (l : Launch) (a b : Int) (hb_a : zB (-2147483648) 2147483647 a) (hb_b : zB (-2147483648) 2147483647 b) : Met l y_S_isInPlane (Cond.code y_S_isInPlane c_S_isInPlane 2 (some .boolean) :: zT) { frames := 1, cells := 0, slots := 0, locals := 22 } (va_Pc ([.int (zi a), .int (zi b)] : List Value) (fun _ => True)) (zR (.int (zi (f_S_isInPlane a b)))) 0 0 (fun _ => False) := by
  refine zh (cc := c_S_isInPlane) (C := R_S) (by decide) rfl rfl (Nat.le_of_ble_eq_true rfl) ?_
  intro p e s m below meth c ls hx hb hr hlocks hml hown hname hts hl hB
  have hw : ∀ w9 ∈ zT, w9.before ([.int (zi a), .int (zi b)] : List Value).toArray s = true := fun w9 h => hts w9 (List.mem_cons_of_mem _ h)
  obtain ⟨hl_a, hh_a⟩ := id hb_a
  obtain ⟨hl_b, hh_b⟩ := id hb_b
  generalize hq : f_S_isInPlane a b = r
  unfold f_S_isInPlane at hq
  replace hl : lv_has ls 2 [(0, .int (zi a)), (1, .int (zi b))] := hl
  refine lv_iload_n hx hb d_S_isInPlane_0 rfl (lv_at hl 0 rfl) ?_
  refine lv_sipush (v := zi (-15000)) hx hb d_S_isInPlane_1 (by decide) ?_
  refine lv_sipush (v := zi 15000) hx hb d_S_isInPlane_4 (by decide) ?_
  refine zc_n (va_runS (As := [.int (zi a), .int (zi (-15000)), .int (zi 15000)]) (rest := []) ⟨hx, hb, hml, hown, hts⟩ (k_S_isWithin l a (-15000) 15000 (zB.w hb_a (by decide) (by decide)) (zB.w (zb_c (-15000)) (by decide) (by decide)) (zB.w (zb_c 15000) (by decide) (by decide)) ) (zcS 3 hts m_53 m_1 m_51 m_52 rfl rfl q_S_isWithin ⟨Nat.le_of_ble_eq_true rfl, Nat.le_of_ble_eq_true rfl⟩) (zp0 [.int (zi a), .int (zi (-15000)), .int (zi 15000)]) rfl rfl hl.1 rfl (lv_room (Nat.le_of_ble_eq_true rfl)) d_S_isInPlane_7 ⟨Nat.zero_le _, Nat.zero_le _⟩) ?_
  refine zr_if_eq (tgt := 30) hx hb (zB.I (bb_S_isWithin a (-15000) 15000) (by decide) (by decide)) d_S_isInPlane_10 (by decide) (fun c_1 => ?_) (fun c_1 => ?_)
  · replace hq := (if_pos c_1).symm.trans hq
    have r_2 : zB 0 0 (f_S_isWithin a (-15000) 15000) := ⟨(Int.le_of_eq c_1.symm), (Int.le_of_eq c_1)⟩
    refine lv_iconst (v := zi 0) hx hb d_S_isInPlane_30 rfl ?_
    exact ze_z hx hb hr hlocks (zB.w (zb_c 0) (by decide) (by decide)) hq d_S_isInPlane_31
  · replace hq := (if_neg c_1).symm.trans hq
    have r_3 : zB 1 1 (f_S_isWithin a (-15000) 15000) := ⟨(by have := (bb_S_isWithin a (-15000) 15000).1; omega), (bb_S_isWithin a (-15000) 15000).2⟩
    have g_4 := gf_S_isWithin c_1
    obtain ⟨g_4l, g_4h⟩ := id g_4
    refine lv_iload_n hx hb d_S_isInPlane_13 rfl (lv_at hl 1 rfl) ?_
    refine lv_sipush (v := zi (-15000)) hx hb d_S_isInPlane_14 (by decide) ?_
    refine lv_sipush (v := zi 15000) hx hb d_S_isInPlane_17 (by decide) ?_
    refine zc_n (va_runS (As := [.int (zi b), .int (zi (-15000)), .int (zi 15000)]) (rest := []) ⟨hx, hb, hml, hown, hts⟩ (k_S_isWithin l b (-15000) 15000 (zB.w hb_b (by decide) (by decide)) (zB.w (zb_c (-15000)) (by decide) (by decide)) (zB.w (zb_c 15000) (by decide) (by decide)) ) (zcS 3 hts m_53 m_1 m_51 m_52 rfl rfl q_S_isWithin ⟨Nat.le_of_ble_eq_true rfl, Nat.le_of_ble_eq_true rfl⟩) (zp0 [.int (zi b), .int (zi (-15000)), .int (zi 15000)]) rfl rfl hl.1 rfl (lv_room (Nat.le_of_ble_eq_true rfl)) d_S_isInPlane_20 ⟨Nat.zero_le _, Nat.zero_le _⟩) ?_
    refine zr_if_eq (tgt := 30) hx hb (zB.I (bb_S_isWithin b (-15000) 15000) (by decide) (by decide)) d_S_isInPlane_23 (by decide) (fun c_5 => ?_) (fun c_5 => ?_)
    · replace hq := (if_pos c_5).symm.trans hq
      have r_6 : zB 0 0 (f_S_isWithin b (-15000) 15000) := ⟨(Int.le_of_eq c_5.symm), (Int.le_of_eq c_5)⟩
      refine lv_iconst (v := zi 0) hx hb d_S_isInPlane_30 rfl ?_
      exact ze_z hx hb hr hlocks (zB.w (zb_c 0) (by decide) (by decide)) hq d_S_isInPlane_31
    · replace hq := (if_neg c_5).symm.trans hq
      have r_7 : zB 1 1 (f_S_isWithin b (-15000) 15000) := ⟨(by have := (bb_S_isWithin b (-15000) 15000).1; omega), (bb_S_isWithin b (-15000) 15000).2⟩
      have g_8 := gf_S_isWithin c_5
      obtain ⟨g_8l, g_8h⟩ := id g_8
      refine lv_iconst (v := zi 1) hx hb d_S_isInPlane_26 rfl ?_
      refine lv_goto (tgt := 31) hx hb d_S_isInPlane_27 (by decide) ?_
      exact ze_z hx hb hr hlocks (zB.w (zb_c 1) (by decide) (by decide)) hq d_S_isInPlane_31
def f_S_isLevel (a : Int) : Int := f_S_isWithin a (-100000) 100000
theorem bb_S_isLevel (a : Int) : zB 0 1 (f_S_isLevel a) := by
  unfold f_S_isLevel
  repeat' split
  all_goals first | exact ⟨by decide, by decide⟩  | apply bb_S_isWithin
theorem gf_S_isLevel {a : Int} (h : ¬ f_S_isLevel a = 0) : zB (-100000) 100000 a := gf_S_isWithin h
set_option maxHeartbeats 4000000 in
set_option maxRecDepth 100000 in
theorem k_S_isLevel (l : Launch) (a : Int) (hb_a : zB (-2147483648) 2147483647 a) : Met l y_S_isLevel (Cond.code y_S_isLevel c_S_isLevel 1 (some .boolean) :: zT) { frames := 1, cells := 0, slots := 0, locals := 22 } (va_Pc ([.int (zi a)] : List Value) (fun _ => True)) (zR (.int (zi (f_S_isLevel a)))) 0 0 (fun _ => False) := by
  refine zh (cc := c_S_isLevel) (C := R_S) (by decide) rfl rfl (Nat.le_of_ble_eq_true rfl) ?_
  intro p e s m below meth c ls hx hb hr hlocks hml hown hname hts hl hB
  have hw : ∀ w9 ∈ zT, w9.before ([.int (zi a)] : List Value).toArray s = true := fun w9 h => hts w9 (List.mem_cons_of_mem _ h)
  obtain ⟨hl_a, hh_a⟩ := id hb_a
  generalize hq : f_S_isLevel a = r
  unfold f_S_isLevel at hq
  replace hl : lv_has ls 1 [(0, .int (zi a))] := hl
  refine lv_iload_n hx hb d_S_isLevel_0 rfl (lv_at hl 0 rfl) ?_
  refine lv_ldc (v := zi (-100000)) hx hb hown (hw _ m_57) d_S_isLevel_1 ?_
  refine lv_ldc (v := zi 100000) hx hb hown (hw _ m_58) d_S_isLevel_3 ?_
  refine zc_n (va_runS (As := [.int (zi a), .int (zi (-100000)), .int (zi 100000)]) (rest := []) ⟨hx, hb, hml, hown, hts⟩ (k_S_isWithin l a (-100000) 100000 (zB.w hb_a (by decide) (by decide)) (zB.w (zb_c (-100000)) (by decide) (by decide)) (zB.w (zb_c 100000) (by decide) (by decide)) ) (zcS 3 hts m_53 m_1 m_51 m_52 rfl rfl q_S_isWithin ⟨Nat.le_of_ble_eq_true rfl, Nat.le_of_ble_eq_true rfl⟩) (zp0 [.int (zi a), .int (zi (-100000)), .int (zi 100000)]) rfl rfl hl.1 rfl (lv_room (Nat.le_of_ble_eq_true rfl)) d_S_isLevel_5 ⟨Nat.zero_le _, Nat.zero_le _⟩) ?_
  exact ze_z hx hb hr hlocks (zB.w (bb_S_isWithin a (-100000) 100000) (by decide) (by decide)) hq d_S_isLevel_8
def f_S_isSide (a : Int) : Int := if a = 0 then (1) else (if a = 1 then (1) else (0))
theorem bb_S_isSide (a : Int) : zB 0 1 (f_S_isSide a) := by
  unfold f_S_isSide
  repeat' split
  all_goals first | exact ⟨by decide, by decide⟩  | apply bb_S_isWithin
theorem gf_S_isSide {a : Int} (h : ¬ f_S_isSide a = 0) : zB 0 1 a := by
  unfold f_S_isSide at h
  by_cases h1 : a = 0
  · exact ⟨by omega, by omega⟩
  · rw [if_neg h1] at h
    by_cases h2 : a = 1
    · exact ⟨by omega, by omega⟩
    · rw [if_neg h2] at h; exact absurd rfl h
set_option maxHeartbeats 4000000 in
set_option maxRecDepth 100000 in
theorem k_S_isSide (l : Launch) (a : Int) (hb_a : zB (-2147483648) 2147483647 a) : Met l y_S_isSide (Cond.code y_S_isSide c_S_isSide 1 (some .boolean) :: zT) { frames := 0, cells := 0, slots := 0, locals := 0 } (va_Pc ([.int (zi a)] : List Value) (fun _ => True)) (zR (.int (zi (f_S_isSide a)))) 0 0 (fun _ => False) := by
  refine zh (cc := c_S_isSide) (C := R_S) (by decide) rfl rfl (Nat.le_of_ble_eq_true rfl) ?_
  intro p e s m below meth c ls hx hb hr hlocks hml hown hname hts hl hB
  have hw : ∀ w9 ∈ zT, w9.before ([.int (zi a)] : List Value).toArray s = true := fun w9 h => hts w9 (List.mem_cons_of_mem _ h)
  obtain ⟨hl_a, hh_a⟩ := id hb_a
  generalize hq : f_S_isSide a = r
  unfold f_S_isSide at hq
  replace hl : lv_has ls 1 [(0, .int (zi a))] := hl
  refine lv_iload_n hx hb d_S_isSide_0 rfl (lv_at hl 0 rfl) ?_
  refine zr_if_eq (tgt := 9) hx hb (zB.I hb_a (by decide) (by decide)) d_S_isSide_1 (by decide) (fun c_1 => ?_) (fun c_1 => ?_)
  · replace hq := (if_pos c_1).symm.trans hq
    have r_2 : zB 0 0 a := ⟨(Int.le_of_eq c_1.symm), (Int.le_of_eq c_1)⟩
    refine lv_iconst (v := zi 1) hx hb d_S_isSide_9 rfl ?_
    refine lv_goto (tgt := 14) hx hb d_S_isSide_10 (by decide) ?_
    exact ze_z hx hb hr hlocks (zB.w (zb_c 1) (by decide) (by decide)) hq d_S_isSide_14
  · replace hq := (if_neg c_1).symm.trans hq
    refine lv_iload_n hx hb d_S_isSide_4 rfl (lv_at hl 0 rfl) ?_
    refine lv_iconst (v := zi 1) hx hb d_S_isSide_5 rfl ?_
    refine zr_icmp_ne (tgt := 13) hx hb (zB.I hb_a (by decide) (by decide)) (zB.I (zb_c 1) (by decide) (by decide)) d_S_isSide_6 (by decide) (fun c_3 => ?_) (fun c_3 => ?_)
    · replace hq := (if_neg c_3).symm.trans hq
      refine lv_iconst (v := zi 0) hx hb d_S_isSide_13 rfl ?_
      exact ze_z hx hb hr hlocks (zB.w (zb_c 0) (by decide) (by decide)) hq d_S_isSide_14
    · replace hq := (if_pos c_3).symm.trans hq
      have r_4 : zB 1 1 a := ⟨(Int.le_of_eq c_3.symm), (Int.le_of_eq c_3)⟩
      refine lv_iconst (v := zi 1) hx hb d_S_isSide_9 rfl ?_
      refine lv_goto (tgt := 14) hx hb d_S_isSide_10 (by decide) ?_
      exact ze_z hx hb hr hlocks (zB.w (zb_c 1) (by decide) (by decide)) hq d_S_isSide_14
def f_S_isStation (S : Nat → Int → Int) (a : Int) : Int := if a < 0 then (0) else (if a < (S 11 0) then (1) else (0))
theorem bb_S_isStation (S : Nat → Int → Int) (a : Int) : zB 0 1 (f_S_isStation S a) := by
  unfold f_S_isStation
  repeat' split
  all_goals first | exact ⟨by decide, by decide⟩  | apply bb_S_isWithin
theorem gf_S_isStation {S : Nat → Int → Int} {a : Int} (hI : iS S) (h : ¬ f_S_isStation S a = 0) : zB 0 59 a ∧ a < S 11 0 := by
  have hh := (iS_s0 hI).2
  unfold f_S_isStation at h
  by_cases h1 : a < 0
  · rw [if_pos h1] at h; exact absurd rfl h
  · rw [if_neg h1] at h
    by_cases h2 : a < S 11 0
    · exact ⟨⟨by omega, by omega⟩, h2⟩
    · rw [if_neg h2] at h; exact absurd rfl h
set_option maxHeartbeats 4000000 in
set_option maxRecDepth 100000 in
theorem k_S_isStation (l : Launch) (dC : Nat → ClassId) (dI : Nat → Nat → Nat) (ad : Nat → Nat) (cI : ClassId) (S : Nat → Int → Int) (k0 k1 k2 k3 : Int) (hI : iS S) (a : Int) (hb_a : zB (-2147483648) 2147483647 a) : Met l y_S_isStation (Cond.code y_S_isStation c_S_isStation 2 (some .boolean) :: zT) { frames := 0, cells := 0, slots := 0, locals := 0 } (va_Pc ([.ref (ad 0), .int (zi a)] : List Value) (zWS dC dI ad cI S k0 k1 k2 k3)) (zR (.int (zi (f_S_isStation S a)))) 0 0 (fun _ => False) := by
  refine zh (cc := c_S_isStation) (C := R_S) (by decide) rfl rfl (Nat.le_of_ble_eq_true rfl) ?_
  intro p e s m below meth c ls hx hb hr hlocks hml hown hname hts hl hB
  have hw : ∀ w9 ∈ zT, w9.before ([.ref (ad 0), .int (zi a)] : List Value).toArray s = true := fun w9 h => hts w9 (List.mem_cons_of_mem _ h)
  obtain ⟨hP, hK, hN⟩ := hB
  obtain ⟨hn0, hn1⟩ := id (iS_s0 hI)
  obtain ⟨hz0, hz1⟩ := id (iS_s6 hI)
  obtain ⟨hl_a, hh_a⟩ := id hb_a
  generalize hq : f_S_isStation S a = r
  unfold f_S_isStation at hq
  replace hl : lv_has ls 2 [(0, .ref (ad 0)), (1, .int (zi a))] := hl
  refine lv_iload_n hx hb d_S_isStation_0 rfl (lv_at hl 1 rfl) ?_
  refine zr_if_lt (tgt := 16) hx hb (zB.I hb_a (by decide) (by decide)) d_S_isStation_1 (by decide) (fun c_1 => ?_) (fun c_1 => ?_)
  · replace hq := (if_pos c_1).symm.trans hq
    have r_2 : zB (-2147483648) (-1) a := ⟨hb_a.1, (Int.le_sub_one_of_lt c_1)⟩
    refine lv_iconst (v := zi 0) hx hb d_S_isStation_16 rfl ?_
    exact ze_z hx hb hr hlocks (zB.w (zb_c 0) (by decide) (by decide)) hq d_S_isStation_17
  · replace hq := (if_neg c_1).symm.trans hq
    have r_3 : zB 0 2147483647 a := ⟨(Int.not_lt.mp c_1), hb_a.2⟩
    refine lv_iload_n hx hb d_S_isStation_4 rfl (lv_at hl 1 rfl) ?_
    refine lv_aload_n hx hb d_S_isStation_5 rfl (lv_at hl 0 rfl) ?_
    refine va_get (D := (dC, dI)) (ci := 1) (v := .int (zi (S 11 0))) (C := R_S) (T := T_S) (N := 13) hx hb hw i_S hown hK hP 0 rfl rfl 7 (by decide) (hw _ m_38) (fun _ h9 => h9) rfl d_S_isStation_6 ?_
    refine zr_icmp_ge (tgt := 16) hx hb (zB.I r_3 (by decide) (by decide)) (zB.I (iS_s0 hI) (by decide) (by decide)) d_S_isStation_9 (by decide) (fun c_4 => ?_) (fun c_4 => ?_)
    · replace hq := (if_neg c_4).symm.trans hq
      refine lv_iconst (v := zi 0) hx hb d_S_isStation_16 rfl ?_
      exact ze_z hx hb hr hlocks (zB.w (zb_c 0) (by decide) (by decide)) hq d_S_isStation_17
    · replace hq := (if_pos c_4).symm.trans hq
      refine lv_iconst (v := zi 1) hx hb d_S_isStation_12 rfl ?_
      refine lv_goto (tgt := 17) hx hb d_S_isStation_13 (by decide) ?_
      exact ze_z hx hb hr hlocks (zB.w (zb_c 1) (by decide) (by decide)) hq d_S_isStation_17
def f_S_squareOf (a b : Int) : Int := (a * a) + (b * b)
theorem br_S_squareOf (a b : Int) (ha : zB (-30000) 30000 a) (hb : zB (-30000) 30000 b) : zB 0 1800000000 (f_S_squareOf a b) := zB.w (zb_add (zb_sq ha) (zb_sq hb)) (by decide) (by decide)
set_option maxHeartbeats 4000000 in
set_option maxRecDepth 100000 in
theorem k_S_squareOf (l : Launch) (a b : Int) (hb_a : zB (-30000) 30000 a) (hb_b : zB (-30000) 30000 b) : Met l y_S_squareOf (Cond.code y_S_squareOf c_S_squareOf 4 (some .long) :: zT) { frames := 0, cells := 0, slots := 0, locals := 0 } (va_Pc ([.long (zl a), .long (zl b)] : List Value) (fun _ => True)) (zR (.long (zl (f_S_squareOf a b)))) 0 0 (fun _ => False) := by
  refine zh (cc := c_S_squareOf) (C := R_S) (by decide) rfl rfl (Nat.le_of_ble_eq_true rfl) ?_
  intro p e s m below meth c ls hx hb hr hlocks hml hown hname hts hl hB
  have hw : ∀ w9 ∈ zT, w9.before ([.long (zl a), .long (zl b)] : List Value).toArray s = true := fun w9 h => hts w9 (List.mem_cons_of_mem _ h)
  obtain ⟨hl_a, hh_a⟩ := id hb_a
  obtain ⟨hl_b, hh_b⟩ := id hb_b
  generalize hq : f_S_squareOf a b = r
  unfold f_S_squareOf at hq
  replace hl : lv_has ls 4 [(0, .long (zl a)), (2, .long (zl b))] := hl
  refine lv_lload_n hx hb d_S_squareOf_0 rfl (lv_at hl 0 rfl) ?_
  refine lv_lload_n hx hb d_S_squareOf_1 rfl (lv_at hl 0 rfl) ?_
  have b_1 : zB 0 900000000 (a * a) := zB.w (zb_sq (A := 30000) (zB.w hb_a (by decide) (by decide))) (by decide) (by decide)
  refine zr_lmul hx hb d_S_squareOf_2 ?_
  refine lv_lload_n hx hb d_S_squareOf_3 rfl (lv_at hl 1 rfl) ?_
  refine lv_lload_n hx hb d_S_squareOf_4 rfl (lv_at hl 1 rfl) ?_
  have b_2 : zB 0 900000000 (b * b) := zB.w (zb_sq (A := 30000) (zB.w hb_b (by decide) (by decide))) (by decide) (by decide)
  refine zr_lmul hx hb d_S_squareOf_5 ?_
  have b_3 : zB 0 1800000000 ((a * a) + (b * b)) := zB.w (zb_add b_1 b_2) (by decide) (by decide)
  refine zr_ladd hx hb d_S_squareOf_6 ?_
  exact ze_l hx hb hr hlocks hq d_S_squareOf_7
def f_S_squareBetween (S : Nat → Int → Int) (a b : Int) : Int := f_S_squareOf ((S 0 b) - (S 0 a)) ((S 1 b) - (S 1 a))
theorem br_S_squareBetween (S : Nat → Int → Int) (a b : Int) (hI : iS S) (_ : zB 0 59 a) (_ : zB 0 59 b) : zB 0 1800000000 (f_S_squareBetween S a b) := br_S_squareOf _ _ (zB.w (zb_sub (iS_a0 hI b) (iS_a0 hI a)) (by decide) (by decide)) (zB.w (zb_sub (iS_a1 hI b) (iS_a1 hI a)) (by decide) (by decide))
set_option maxHeartbeats 4000000 in
set_option maxRecDepth 100000 in
theorem k_S_squareBetween (l : Launch) (dC : Nat → ClassId) (dI : Nat → Nat → Nat) (ad : Nat → Nat) (cI : ClassId) (S : Nat → Int → Int) (k0 k1 k2 k3 : Int) (hI : iS S) (a b : Int) (hb_a : zB 0 59 a) (hb_b : zB 0 59 b) : Met l y_S_squareBetween (Cond.code y_S_squareBetween c_S_squareBetween 3 (some .long) :: zT) { frames := 1, cells := 0, slots := 0, locals := 23 } (va_Pc ([.ref (ad 0), .int (zi a), .int (zi b)] : List Value) (zWS dC dI ad cI S k0 k1 k2 k3)) (zR (.long (zl (f_S_squareBetween S a b)))) 0 0 (fun _ => False) := by
  refine zh (cc := c_S_squareBetween) (C := R_S) (by decide) rfl rfl (Nat.le_of_ble_eq_true rfl) ?_
  intro p e s m below meth c ls hx hb hr hlocks hml hown hname hts hl hB
  have hw : ∀ w9 ∈ zT, w9.before ([.ref (ad 0), .int (zi a), .int (zi b)] : List Value).toArray s = true := fun w9 h => hts w9 (List.mem_cons_of_mem _ h)
  obtain ⟨hP, hK, hN⟩ := hB
  obtain ⟨hn0, hn1⟩ := id (iS_s0 hI)
  obtain ⟨hz0, hz1⟩ := id (iS_s6 hI)
  obtain ⟨hl_a, hh_a⟩ := id hb_a
  obtain ⟨hl_b, hh_b⟩ := id hb_b
  generalize hq : f_S_squareBetween S a b = r
  unfold f_S_squareBetween at hq
  replace hl : lv_has ls 3 [(0, .ref (ad 0)), (1, .int (zi a)), (2, .int (zi b))] := hl
  refine lv_aload_n hx hb d_S_squareBetween_0 rfl (lv_at hl 0 rfl) ?_
  refine va_get (D := (dC, dI)) (ci := 1) (v := .ref (ad 1)) (C := R_S) (T := T_S) (N := 13) hx hb hw i_S hown hK hP 0 rfl rfl 0 (by decide) (hw _ m_31) (fun _ h9 => h9) rfl d_S_squareBetween_1 ?_
  refine lv_iload_n hx hb d_S_squareBetween_4 rfl (lv_at hl 2 rfl) ?_
  refine zr_iald hx hb hK hP 1 0 (cA := cI) (n := 60) (g := S 0) rfl rfl (i := b) (by omega) (by omega) (by decide) d_S_squareBetween_5 ?_
  refine lv_aload_n hx hb d_S_squareBetween_6 rfl (lv_at hl 0 rfl) ?_
  refine va_get (D := (dC, dI)) (ci := 1) (v := .ref (ad 1)) (C := R_S) (T := T_S) (N := 13) hx hb hw i_S hown hK hP 0 rfl rfl 0 (by decide) (hw _ m_31) (fun _ h9 => h9) rfl d_S_squareBetween_7 ?_
  refine lv_iload_n hx hb d_S_squareBetween_10 rfl (lv_at hl 1 rfl) ?_
  refine zr_iald hx hb hK hP 1 0 (cA := cI) (n := 60) (g := S 0) rfl rfl (i := a) (by omega) (by omega) (by decide) d_S_squareBetween_11 ?_
  have b_1 : zB (-30000) 30000 ((S 0 b) - (S 0 a)) := zB.w (zb_sub (iS_a0 hI b) (iS_a0 hI a)) (by decide) (by decide)
  refine zr_isub hx hb d_S_squareBetween_12 ?_
  refine zr_i2l hx hb (zB.I b_1 (by decide) (by decide)) d_S_squareBetween_13 ?_
  refine lv_aload_n hx hb d_S_squareBetween_14 rfl (lv_at hl 0 rfl) ?_
  refine va_get (D := (dC, dI)) (ci := 1) (v := .ref (ad 2)) (C := R_S) (T := T_S) (N := 13) hx hb hw i_S hown hK hP 0 rfl rfl 1 (by decide) (hw _ m_32) (fun _ h9 => h9) rfl d_S_squareBetween_15 ?_
  refine lv_iload_n hx hb d_S_squareBetween_18 rfl (lv_at hl 2 rfl) ?_
  refine zr_iald hx hb hK hP 2 0 (cA := cI) (n := 60) (g := S 1) rfl rfl (i := b) (by omega) (by omega) (by decide) d_S_squareBetween_19 ?_
  refine lv_aload_n hx hb d_S_squareBetween_20 rfl (lv_at hl 0 rfl) ?_
  refine va_get (D := (dC, dI)) (ci := 1) (v := .ref (ad 2)) (C := R_S) (T := T_S) (N := 13) hx hb hw i_S hown hK hP 0 rfl rfl 1 (by decide) (hw _ m_32) (fun _ h9 => h9) rfl d_S_squareBetween_21 ?_
  refine lv_iload_n hx hb d_S_squareBetween_24 rfl (lv_at hl 1 rfl) ?_
  refine zr_iald hx hb hK hP 2 0 (cA := cI) (n := 60) (g := S 1) rfl rfl (i := a) (by omega) (by omega) (by decide) d_S_squareBetween_25 ?_
  have b_2 : zB (-30000) 30000 ((S 1 b) - (S 1 a)) := zB.w (zb_sub (iS_a1 hI b) (iS_a1 hI a)) (by decide) (by decide)
  refine zr_isub hx hb d_S_squareBetween_26 ?_
  refine zr_i2l hx hb (zB.I b_2 (by decide) (by decide)) d_S_squareBetween_27 ?_
  refine zc_n (va_runS (As := [.long (zl ((S 0 b) - (S 0 a))), .long (zl ((S 1 b) - (S 1 a)))]) (rest := []) ⟨hx, hb, hml, hown, hts⟩ (k_S_squareOf l ((S 0 b) - (S 0 a)) ((S 1 b) - (S 1 a)) (zB.w b_1 (by decide) (by decide)) (zB.w b_2 (by decide) (by decide)) ) (zcS 2 hts m_67 m_1 m_65 m_66 rfl rfl q_S_squareOf ⟨Nat.le_of_ble_eq_true rfl, Nat.le_of_ble_eq_true rfl⟩) (zp0 [.long (zl ((S 0 b) - (S 0 a))), .long (zl ((S 1 b) - (S 1 a)))]) rfl rfl hl.1 rfl (lv_room (Nat.le_of_ble_eq_true rfl)) d_S_squareBetween_28 ⟨Nat.zero_le _, Nat.zero_le _⟩) ?_
  have b_3 : zB 0 1800000000 (f_S_squareOf ((S 0 b) - (S 0 a)) ((S 1 b) - (S 1 a))) := br_S_squareOf ((S 0 b) - (S 0 a)) ((S 1 b) - (S 1 a)) (zB.w b_1 (by decide) (by decide)) (zB.w b_2 (by decide) (by decide)) 
  exact ze_l hx hb hr hlocks hq d_S_squareBetween_31
def f_S_rootOf_l (v : Int) (z : Int → Int) : Nat → Int → Int → Int
  | 0, _, _ => 0
  | k + 1, t, i => if i < 0 then (z t) else (if v < ((t + (2 ^ (Int.toNat i))) * (t + (2 ^ (Int.toNat i)))) then (f_S_rootOf_l v z k t (i + (-1))) else (f_S_rootOf_l v z k (t + (2 ^ (Int.toNat i))) (i + (-1))))
theorem f_S_rootOf_l_s (v : Int) (z : Int → Int) (k : Nat) (t i : Int) : f_S_rootOf_l v z (k + 1) t i = (if i < 0 then (z t) else (if v < ((t + (2 ^ (Int.toNat i))) * (t + (2 ^ (Int.toNat i)))) then (f_S_rootOf_l v z k t (i + (-1))) else (f_S_rootOf_l v z k (t + (2 ^ (Int.toNat i))) (i + (-1))))) := rfl
def f_S_rootOf (v : Int) : Int := f_S_rootOf_l v (fun t => t) 17 0 15
set_option maxHeartbeats 4000000 in
set_option maxRecDepth 100000 in
theorem k_S_rootOf (l : Launch) (v : Int) (hb_v : zB 0 1800000000 v) : Met l y_S_rootOf (Cond.code y_S_rootOf c_S_rootOf 6 (some .int) :: zT) { frames := 0, cells := 0, slots := 0, locals := 0 } (va_Pc ([.long (zl v)] : List Value) (fun _ => True)) (zR (.int (zi (f_S_rootOf v)))) 0 0 (fun _ => False) := by
  refine zh (cc := c_S_rootOf) (C := R_S) (by decide) rfl rfl (Nat.le_of_ble_eq_true rfl) ?_
  intro p e s m below meth c ls hx hb hr hlocks hml hown hname hts hl hB
  have hw : ∀ w9 ∈ zT, w9.before ([.long (zl v)] : List Value).toArray s = true := fun w9 h => hts w9 (List.mem_cons_of_mem _ h)
  obtain ⟨hl_v, hh_v⟩ := id hb_v
  generalize hq : f_S_rootOf v = r
  unfold f_S_rootOf at hq
  replace hl : lv_has ls 6 [(0, .long (zl v))] := hl
  refine lv_iconst (v := zi 0) hx hb d_S_rootOf_0 rfl ?_
  refine lv_istore_n (lv' := [(2, .int (zi 0)), (0, .long (zl v))]) hx hb d_S_rootOf_1 rfl hl (by decide) rfl (fun ls hl => ?_)
  refine lv_bipush (v := zi 15) hx hb d_S_rootOf_2 (by decide) ?_
  refine lv_istore_n (lv' := [(3, .int (zi 15)), (2, .int (zi 0)), (0, .long (zl v))]) hx hb d_S_rootOf_4 rfl hl (by decide) rfl (fun ls hl => ?_)
  have L_l : ∀ (z : Int → Int), (∀ (t : Int), zB 0 524288 t → ∀ (ls : Array Slot), z t = r → lv_has ls 6 [(0, .long (zl v)), (2, .int (zi t))] → W p l e { frames := 0, cells := 0, slots := 0, locals := 0 } s m ([.long (zl v)] : List Value).toArray below meth c s.heap [] 0 0 (MQ below (zR (.int (zi r))) ([.long (zl v)] : List Value).toArray s 0 0 (fun _ => False)) (F0 m 37 ls [])) → ∀ (k : Nat) (t i : Int) (ls : Array Slot), zB 0 524288 t → zB (-1) 15 i → t ≤ 32768 * (15 - i) → i + 1 < (k : Int) → f_S_rootOf_l v z k t i = r → lv_has ls 6 [(0, .long (zl v)), (2, .int (zi t)), (3, .int (zi i))] → W p l e { frames := 0, cells := 0, slots := 0, locals := 0 } s m ([.long (zl v)] : List Value).toArray below meth c s.heap [] 0 0 (MQ below (zR (.int (zi r))) ([.long (zl v)] : List Value).toArray s 0 0 (fun _ => False)) (F0 m 5 ls []) := by
    intro z hz k
    induction k with
    | zero =>
      intro t i ls hb_t hb_i hi_0 hk hq hl
      exact absurd hk (by have := hb_t.1; have := hb_t.2; have := hb_i.1; have := hb_i.2; omega)
    | succ k ih =>
      intro t i ls hb_t hb_i hi_0 hk hq hl
      obtain ⟨hl_t, hh_t⟩ := id hb_t
      obtain ⟨hl_i, hh_i⟩ := id hb_i
      replace hq := (f_S_rootOf_l_s v z k t i).symm.trans hq
      refine lv_iload_n hx hb d_S_rootOf_5 rfl (lv_at hl 2 rfl) ?_
      refine zr_if_lt (tgt := 37) hx hb (zB.I hb_i (by decide) (by decide)) d_S_rootOf_6 (by decide) (fun c_1 => ?_) (fun c_1 => ?_)
      · replace hq := (if_pos c_1).symm.trans hq
        have r_2 : zB (-1) (-1) i := ⟨hb_i.1, (Int.le_sub_one_of_lt c_1)⟩
        exact hz t (zB.w hb_t (by decide) (by decide)) ls hq (lv_sub hl [0, 1] rfl)
      · replace hq := (if_neg c_1).symm.trans hq
        have r_3 : zB 0 15 i := ⟨(Int.not_lt.mp c_1), hb_i.2⟩
        refine lv_iload_n hx hb d_S_rootOf_9 rfl (lv_at hl 1 rfl) ?_
        refine lv_iconst (v := zi 1) hx hb d_S_rootOf_10 rfl ?_
        refine lv_iload_n hx hb d_S_rootOf_11 rfl (lv_at hl 2 rfl) ?_
        refine zr_shl1 hx hb (zB.w (lo' := 0) (hi' := 30) r_3 (by decide) (by decide)) d_S_rootOf_12 ?_
        have b_4 : zB 1 32768 (2 ^ (Int.toNat i)) := zB.w (zb_pow2 (n := 15) r_3 (by decide)) (by decide) (by decide)
        obtain ⟨hl_b_4, hh_b_4⟩ := id b_4
        have b_5 : zB 1 557056 (t + (2 ^ (Int.toNat i))) := zB.w (zb_add hb_t b_4) (by decide) (by decide)
        refine zr_iadd hx hb d_S_rootOf_13 ?_
        refine zr_i2l hx hb (zB.I b_5 (by decide) (by decide)) d_S_rootOf_14 ?_
        refine lv_lstore (lv' := [(4, .long (zl (t + (2 ^ (Int.toNat i))))), (0, .long (zl v)), (2, .int (zi t)), (3, .int (zi i))]) hx hb d_S_rootOf_15 hl (by decide) rfl (fun ls hl => ?_)
        refine lv_lload hx hb d_S_rootOf_17 (lv_at hl 0 rfl) ?_
        refine lv_lload hx hb d_S_rootOf_19 (lv_at hl 0 rfl) ?_
        have b_6 : zB 0 310311387136 ((t + (2 ^ (Int.toNat i))) * (t + (2 ^ (Int.toNat i)))) := zB.w (zb_sq (A := 557056) (zB.w b_5 (by decide) (by decide))) (by decide) (by decide)
        refine zr_lmul hx hb d_S_rootOf_21 ?_
        refine lv_lload_n hx hb d_S_rootOf_22 rfl (lv_at hl 1 rfl) ?_
        refine zr_lcmp_gt (tgt := 31) hx hb (zB.L b_6 (by decide) (by decide)) (zB.L hb_v (by decide) (by decide)) d_S_rootOf_23 d_S_rootOf_24 (by decide) (fun c_7 => ?_) (fun c_7 => ?_)
        · replace hq := (if_pos c_7).symm.trans hq
          have b_8 : zB (-1) 14 (i + (-1)) := zB.w (zb_add r_3 (zb_c (-1))) (by decide) (by decide)
          refine lv_iinc (v := zi (i + (-1))) (lv' := [(3, .int (zi (i + (-1)))), (4, .long (zl (t + (2 ^ (Int.toNat i))))), (0, .long (zl v)), (2, .int (zi t))]) hx hb d_S_rootOf_31 hl (k := 3) rfl (zi_add _ _) (by decide) rfl (fun ls hl => ?_)
          refine lv_goto (tgt := 5) hx hb d_S_rootOf_34 (by decide) ?_
          exact ih t (i + (-1)) ls (zB.w hb_t (by decide) (by decide)) (zB.w b_8 (by decide) (by decide)) (by omega) (by omega) hq (lv_sub hl [2, 3, 0] rfl)
        · replace hq := (if_neg c_7).symm.trans hq
          refine lv_lload hx hb d_S_rootOf_27 (lv_at hl 0 rfl) ?_
          refine zr_l2i hx hb d_S_rootOf_29 ?_
          refine lv_istore_n (lv' := [(2, .int (zi (t + (2 ^ (Int.toNat i))))), (4, .long (zl (t + (2 ^ (Int.toNat i))))), (0, .long (zl v)), (3, .int (zi i))]) hx hb d_S_rootOf_30 rfl hl (by decide) rfl (fun ls hl => ?_)
          have b_9 : zB (-1) 14 (i + (-1)) := zB.w (zb_add r_3 (zb_c (-1))) (by decide) (by decide)
          refine lv_iinc (v := zi (i + (-1))) (lv' := [(3, .int (zi (i + (-1)))), (2, .int (zi (t + (2 ^ (Int.toNat i))))), (4, .long (zl (t + (2 ^ (Int.toNat i))))), (0, .long (zl v))]) hx hb d_S_rootOf_31 hl (k := 3) rfl (zi_add _ _) (by decide) rfl (fun ls hl => ?_)
          refine lv_goto (tgt := 5) hx hb d_S_rootOf_34 (by decide) ?_
          exact ih (t + (2 ^ (Int.toNat i))) (i + (-1)) ls ⟨by have h9 := b_5.1; have h8 := b_5.2; omega, by have h9 := b_5.1; have h8 := b_5.2; omega⟩ (zB.w b_9 (by decide) (by decide)) (by omega) (by omega) hq (lv_sub hl [3, 1, 0] rfl)
  refine L_l _ (fun t hb_t ls hq hl => ?_) 17 0 15 ls (zB.w (zb_c 0) (by decide) (by decide)) (zB.w (zb_c 15) (by decide) (by decide)) (by omega) (by omega) hq (lv_sub hl [2, 1, 0] rfl)
  obtain ⟨hl_t, hh_t⟩ := id hb_t
  refine lv_iload_n hx hb d_S_rootOf_37 rfl (lv_at hl 1 rfl) ?_
  exact ze_i hx hb hr hlocks hq d_S_rootOf_38
