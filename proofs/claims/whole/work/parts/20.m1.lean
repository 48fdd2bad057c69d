def jN (N : Nat → Int → Int) : Prop := iN N ∧ ∀ i j : Int, 0 ≤ i → j = i + 1 → j < N 7 0 → N 3 i < N 3 j
theorem jN_m {N : Nat → Int → Int} (h : jN N) (i j : Int) (h1 : 0 ≤ i) (h2 : j = i + 1) (h3 : j < N 7 0) : N 3 i < N 3 j := h.2 i j h1 h2 h3
theorem jN_a0 {N : Nat → Int → Int} (h : jN N) (i : Int) : zB (-15000) 15000 (N 0 i) := iN_a0 h.1 i
theorem jN_a1 {N : Nat → Int → Int} (h : jN N) (i : Int) : zB (-15000) 15000 (N 1 i) := iN_a1 h.1 i
theorem jN_a2 {N : Nat → Int → Int} (h : jN N) (i : Int) : zB (-100000) 100000 (N 2 i) := iN_a2 h.1 i
theorem jN_a3 {N : Nat → Int → Int} (h : jN N) (i : Int) : zB (0) 2545620 (N 3 i) := iN_a3 h.1 i
theorem jN_a4 {N : Nat → Int → Int} (h : jN N) (i : Int) : zB (0) 200 (N 4 i) := iN_a4 h.1 i
theorem jN_a5 {N : Nat → Int → Int} (h : jN N) (i : Int) : zB (-1) 1000 (N 5 i) := iN_a5 h.1 i
theorem jN_a6 {N : Nat → Int → Int} (h : jN N) (i : Int) : zB (-100000) 100000 (N 6 i) := iN_a6 h.1 i
theorem jN_s0 {N : Nat → Int → Int} (h : jN N) : zB 0 60 (N 7 0) := iN_s0 h.1
theorem jN_s1 {N : Nat → Int → Int} (h : jN N) : zB 0 8 (N 7 1) := iN_s1 h.1
theorem jN_s2 {N : Nat → Int → Int} (h : jN N) : zB 0 1000 (N 7 2) := iN_s2 h.1
theorem jN_s3 {N : Nat → Int → Int} (h : jN N) : zB 0 1000 (N 7 3) := iN_s3 h.1
theorem jN_s4 {N : Nat → Int → Int} (h : jN N) : zB 0 100 (N 7 4) := iN_s4 h.1
theorem jN_s5 {N : Nat → Int → Int} (h : jN N) : zB 50 1000 (N 7 5) := iN_s5 h.1
theorem zmid {t w : Int} (h0 : 0 ≤ t) (h : 1 < w - t) : t < Int.tdiv (t + w) 2 ∧ Int.tdiv (t + w) 2 < w := by
  rw [Int.tdiv_eq_ediv_of_nonneg (by omega)]
  omega
def f_M_within (a b d : Int) : Int := if a < b then (0) else (if d < a then (0) else (1))
theorem bb_M_within (a b d : Int) : zB 0 1 (f_M_within a b d) := by
  unfold f_M_within
  repeat' split
  all_goals first | exact ⟨by decide, by decide⟩ 
theorem gf_M_within {a b d : Int} (h : ¬ f_M_within a b d = 0) : zB b d a := by
  unfold f_M_within at h
  by_cases h1 : a < b
  · rw [if_pos h1] at h; exact absurd rfl h
  · rw [if_neg h1] at h
    by_cases h2 : d < a
    · rw [if_pos h2] at h; exact absurd rfl h
    · exact ⟨by omega, by omega⟩
set_option maxHeartbeats 4000000 in
set_option maxRecDepth 100000 in
theorem k_M_within (l : Launch) (a b d : Int) (hb_a : zB (-2147483648) 2147483647 a) (hb_b : zB (-2147483648) 2147483647 b) (hb_d : zB (-2147483648) 2147483647 d) : Met l y_M_within (Cond.code y_M_within c_M_within 3 (some .boolean) :: zT) { frames := 0, cells := 0, slots := 0, locals := 0 } (va_Pc ([.int (zi a), .int (zi b), .int (zi d)] : List Value) (fun _ => True)) (zR (.int (zi (f_M_within a b d)))) 0 0 (fun _ => False) := by
  refine zh (cc := c_M_within) (C := R_M) (by decide) rfl rfl (Nat.le_of_ble_eq_true rfl) ?_
  intro p e s m below meth c ls hx hb hr hlocks hml hown hname hts hl hB
  have hw : ∀ w9 ∈ zT, w9.before ([.int (zi a), .int (zi b), .int (zi d)] : List Value).toArray s = true := fun w9 h => hts w9 (List.mem_cons_of_mem _ h)
  obtain ⟨hl_a, hh_a⟩ := id hb_a
  obtain ⟨hl_b, hh_b⟩ := id hb_b
  obtain ⟨hl_d, hh_d⟩ := id hb_d
  generalize hq : f_M_within a b d = r
  unfold f_M_within at hq
  replace hl : lv_has ls 3 [(0, .int (zi a)), (1, .int (zi b)), (2, .int (zi d))] := hl
  refine lv_iload_n hx hb d_M_within_0 rfl (lv_at hl 0 rfl) ?_
  refine lv_iload_n hx hb d_M_within_1 rfl (lv_at hl 1 rfl) ?_
  refine zr_icmp_lt (tgt := 14) hx hb (zB.I hb_a (by decide) (by decide)) (zB.I hb_b (by decide) (by decide)) d_M_within_2 (by decide) (fun c_1 => ?_) (fun c_1 => ?_)
  · replace hq := (if_pos c_1).symm.trans hq
    refine lv_iconst (v := zi 0) hx hb d_M_within_14 rfl ?_
    exact ze_z hx hb hr hlocks (zB.w (zb_c 0) (by decide) (by decide)) hq d_M_within_15
  · replace hq := (if_neg c_1).symm.trans hq
    refine lv_iload_n hx hb d_M_within_5 rfl (lv_at hl 0 rfl) ?_
    refine lv_iload_n hx hb d_M_within_6 rfl (lv_at hl 2 rfl) ?_
    refine zr_icmp_gt (tgt := 14) hx hb (zB.I hb_a (by decide) (by decide)) (zB.I hb_d (by decide) (by decide)) d_M_within_7 (by decide) (fun c_2 => ?_) (fun c_2 => ?_)
    · replace hq := (if_pos c_2).symm.trans hq
      refine lv_iconst (v := zi 0) hx hb d_M_within_14 rfl ?_
      exact ze_z hx hb hr hlocks (zB.w (zb_c 0) (by decide) (by decide)) hq d_M_within_15
    · replace hq := (if_neg c_2).symm.trans hq
      refine lv_iconst (v := zi 1) hx hb d_M_within_10 rfl ?_
      refine lv_goto (tgt := 15) hx hb d_M_within_11 (by decide) ?_
      exact ze_z hx hb hr hlocks (zB.w (zb_c 1) (by decide) (by decide)) hq d_M_within_15
def f_M_isPoint (a b : Int) : Int := if (f_M_within a (-15000) 15000) = 0 then (0) else (if (f_M_within b (-15000) 15000) = 0 then (0) else (1))
theorem bb_M_isPoint (a b : Int) : zB 0 1 (f_M_isPoint a b) := by
  unfold f_M_isPoint
  repeat' split
  all_goals first | exact ⟨by decide, by decide⟩  | apply bb_M_within
theorem gf_M_isPoint {a b : Int} (h : ¬ f_M_isPoint a b = 0) : zB (-15000) 15000 a ∧ zB (-15000) 15000 b := by
  unfold f_M_isPoint at h
  by_cases h1 : f_M_within a (-15000) 15000 = 0
  · rw [if_pos h1] at h; exact absurd rfl h
  · rw [if_neg h1] at h
    by_cases h2 : f_M_within b (-15000) 15000 = 0
    · rw [if_pos h2] at h; exact absurd rfl h
    · exact ⟨gf_M_within h1, gf_M_within h2⟩
set_option maxHeartbeats 4000000 in
set_option maxRecDepth 100000 in
theorem k_M_isPoint (l : Launch) (a b : Int) (hb_a : zB (-2147483648) 2147483647 a) (hb_b : zB (-2147483648) 2147483647 b) : Met l y_M_isPoint (Cond.code y_M_isPoint c_M_isPoint 2 (some .boolean) :: zT) { frames := 1, cells := 0, slots := 0, locals := 22 } (va_Pc ([.int (zi a), .int (zi b)] : List Value) (fun _ => True)) (zR (.int (zi (f_M_isPoint a b)))) 0 0 (fun _ => False) := by
  refine zh (cc := c_M_isPoint) (C := R_M) (by decide) rfl rfl (Nat.le_of_ble_eq_true rfl) ?_
  intro p e s m below meth c ls hx hb hr hlocks hml hown hname hts hl hB
  have hw : ∀ w9 ∈ zT, w9.before ([.int (zi a), .int (zi b)] : List Value).toArray s = true := fun w9 h => hts w9 (List.mem_cons_of_mem _ h)
  obtain ⟨hl_a, hh_a⟩ := id hb_a
  obtain ⟨hl_b, hh_b⟩ := id hb_b
  generalize hq : f_M_isPoint a b = r
  unfold f_M_isPoint at hq
  replace hl : lv_has ls 2 [(0, .int (zi a)), (1, .int (zi b))] := hl
  refine lv_iload_n hx hb d_M_isPoint_0 rfl (lv_at hl 0 rfl) ?_
  refine lv_sipush (v := zi (-15000)) hx hb d_M_isPoint_1 (by decide) ?_
  refine lv_sipush (v := zi 15000) hx hb d_M_isPoint_4 (by decide) ?_
  refine zc_n (va_runS (As := [.int (zi a), .int (zi (-15000)), .int (zi 15000)]) (rest := []) ⟨hx, hb, hml, hown, hts⟩ (k_M_within l a (-15000) 15000 (zB.w hb_a (by decide) (by decide)) (zB.w (zb_c (-15000)) (by decide) (by decide)) (zB.w (zb_c 15000) (by decide) (by decide)) ) (zcS 3 hts m_252 m_3 m_250 m_251 rfl rfl q_M_within ⟨Nat.le_of_ble_eq_true rfl, Nat.le_of_ble_eq_true rfl⟩) (zp0 [.int (zi a), .int (zi (-15000)), .int (zi 15000)]) rfl rfl hl.1 rfl (lv_room (Nat.le_of_ble_eq_true rfl)) d_M_isPoint_7 ⟨Nat.zero_le _, Nat.zero_le _⟩) ?_
  refine zr_if_eq (tgt := 30) hx hb (zB.I (bb_M_within a (-15000) 15000) (by decide) (by decide)) d_M_isPoint_10 (by decide) (fun c_1 => ?_) (fun c_1 => ?_)
  · replace hq := (if_pos c_1).symm.trans hq
    have r_2 : zB 0 0 (f_M_within a (-15000) 15000) := ⟨(Int.le_of_eq c_1.symm), (Int.le_of_eq c_1)⟩
    refine lv_iconst (v := zi 0) hx hb d_M_isPoint_30 rfl ?_
    exact ze_z hx hb hr hlocks (zB.w (zb_c 0) (by decide) (by decide)) hq d_M_isPoint_31
  · replace hq := (if_neg c_1).symm.trans hq
    have r_3 : zB 1 1 (f_M_within a (-15000) 15000) := ⟨(by have := (bb_M_within a (-15000) 15000).1; omega), (bb_M_within a (-15000) 15000).2⟩
    have g_4 := gf_M_within c_1
    obtain ⟨g_4l, g_4h⟩ := id g_4
    refine lv_iload_n hx hb d_M_isPoint_13 rfl (lv_at hl 1 rfl) ?_
    refine lv_sipush (v := zi (-15000)) hx hb d_M_isPoint_14 (by decide) ?_
    refine lv_sipush (v := zi 15000) hx hb d_M_isPoint_17 (by decide) ?_
    refine zc_n (va_runS (As := [.int (zi b), .int (zi (-15000)), .int (zi 15000)]) (rest := []) ⟨hx, hb, hml, hown, hts⟩ (k_M_within l b (-15000) 15000 (zB.w hb_b (by decide) (by decide)) (zB.w (zb_c (-15000)) (by decide) (by decide)) (zB.w (zb_c 15000) (by decide) (by decide)) ) (zcS 3 hts m_252 m_3 m_250 m_251 rfl rfl q_M_within ⟨Nat.le_of_ble_eq_true rfl, Nat.le_of_ble_eq_true rfl⟩) (zp0 [.int (zi b), .int (zi (-15000)), .int (zi 15000)]) rfl rfl hl.1 rfl (lv_room (Nat.le_of_ble_eq_true rfl)) d_M_isPoint_20 ⟨Nat.zero_le _, Nat.zero_le _⟩) ?_
    refine zr_if_eq (tgt := 30) hx hb (zB.I (bb_M_within b (-15000) 15000) (by decide) (by decide)) d_M_isPoint_23 (by decide) (fun c_5 => ?_) (fun c_5 => ?_)
    · replace hq := (if_pos c_5).symm.trans hq
      have r_6 : zB 0 0 (f_M_within b (-15000) 15000) := ⟨(Int.le_of_eq c_5.symm), (Int.le_of_eq c_5)⟩
      refine lv_iconst (v := zi 0) hx hb d_M_isPoint_30 rfl ?_
      exact ze_z hx hb hr hlocks (zB.w (zb_c 0) (by decide) (by decide)) hq d_M_isPoint_31
    · replace hq := (if_neg c_5).symm.trans hq
      have r_7 : zB 1 1 (f_M_within b (-15000) 15000) := ⟨(by have := (bb_M_within b (-15000) 15000).1; omega), (bb_M_within b (-15000) 15000).2⟩
      have g_8 := gf_M_within c_5
      obtain ⟨g_8l, g_8h⟩ := id g_8
      refine lv_iconst (v := zi 1) hx hb d_M_isPoint_26 rfl ?_
      refine lv_goto (tgt := 31) hx hb d_M_isPoint_27 (by decide) ?_
      exact ze_z hx hb hr hlocks (zB.w (zb_c 1) (by decide) (by decide)) hq d_M_isPoint_31
def f_M_isStation (N : Nat → Int → Int) (a : Int) : Int := if a < 0 then (0) else (if a < (N 7 0) then (1) else (0))
theorem bb_M_isStation (N : Nat → Int → Int) (a : Int) : zB 0 1 (f_M_isStation N a) := by
  unfold f_M_isStation
  repeat' split
  all_goals first | exact ⟨by decide, by decide⟩  | apply bb_M_within
theorem gf_M_isStation {N : Nat → Int → Int} {a : Int} (hI : jN N) (h : ¬ f_M_isStation N a = 0) : zB 0 59 a ∧ a < N 7 0 := by
  have hh := (jN_s0 hI).2
  unfold f_M_isStation at h
  by_cases h1 : a < 0
  · rw [if_pos h1] at h; exact absurd rfl h
  · rw [if_neg h1] at h
    by_cases h2 : a < N 7 0
    · exact ⟨⟨by omega, by omega⟩, h2⟩
    · rw [if_neg h2] at h; exact absurd rfl h
set_option maxHeartbeats 4000000 in
set_option maxRecDepth 100000 in
theorem k_M_isStation (l : Launch) (dC : Nat → ClassId) (dI : Nat → Nat → Nat) (ad : Nat → Nat) (cI : ClassId) (N : Nat → Int → Int) (k0 k1 k2 k3 : Int) (hI : jN N) (a : Int) (hb_a : zB (-2147483648) 2147483647 a) : Met l y_M_isStation (Cond.code y_M_isStation c_M_isStation 2 (some .boolean) :: zT) { frames := 0, cells := 0, slots := 0, locals := 0 } (va_Pc ([.ref (ad 0), .int (zi a)] : List Value) (zWM dC dI ad cI N k0 k1 k2 k3)) (zR (.int (zi (f_M_isStation N a)))) 0 0 (fun _ => False) := by
  refine zh (cc := c_M_isStation) (C := R_M) (by decide) rfl rfl (Nat.le_of_ble_eq_true rfl) ?_
  intro p e s m below meth c ls hx hb hr hlocks hml hown hname hts hl hB
  have hw : ∀ w9 ∈ zT, w9.before ([.ref (ad 0), .int (zi a)] : List Value).toArray s = true := fun w9 h => hts w9 (List.mem_cons_of_mem _ h)
  obtain ⟨hP, hK⟩ := hB
  obtain ⟨hn0, hn1⟩ := id (jN_s0 hI)
  obtain ⟨hz0, hz1⟩ := id (jN_s1 hI)
  obtain ⟨hl_a, hh_a⟩ := id hb_a
  generalize hq : f_M_isStation N a = r
  unfold f_M_isStation at hq
  replace hl : lv_has ls 2 [(0, .ref (ad 0)), (1, .int (zi a))] := hl
  refine lv_iload_n hx hb d_M_isStation_0 rfl (lv_at hl 1 rfl) ?_
  refine zr_if_lt (tgt := 16) hx hb (zB.I hb_a (by decide) (by decide)) d_M_isStation_1 (by decide) (fun c_1 => ?_) (fun c_1 => ?_)
  · replace hq := (if_pos c_1).symm.trans hq
    have r_2 : zB (-2147483648) (-1) a := ⟨hb_a.1, (Int.le_sub_one_of_lt c_1)⟩
    refine lv_iconst (v := zi 0) hx hb d_M_isStation_16 rfl ?_
    exact ze_z hx hb hr hlocks (zB.w (zb_c 0) (by decide) (by decide)) hq d_M_isStation_17
  · replace hq := (if_neg c_1).symm.trans hq
    have r_3 : zB 0 2147483647 a := ⟨(Int.not_lt.mp c_1), hb_a.2⟩
    refine lv_iload_n hx hb d_M_isStation_4 rfl (lv_at hl 1 rfl) ?_
    refine lv_aload_n hx hb d_M_isStation_5 rfl (lv_at hl 0 rfl) ?_
    refine va_get (D := (dC, dI)) (ci := 2) (v := .int (zi (N 7 0))) (C := R_M) (T := T_M) (N := 17) hx hb hw i_M hown hK hP 0 rfl rfl 0 (by decide) (hw _ m_226) (fun _ h9 => h9) rfl d_M_isStation_6 ?_
    refine zr_icmp_ge (tgt := 16) hx hb (zB.I r_3 (by decide) (by decide)) (zB.I (jN_s0 hI) (by decide) (by decide)) d_M_isStation_9 (by decide) (fun c_4 => ?_) (fun c_4 => ?_)
    · replace hq := (if_neg c_4).symm.trans hq
      refine lv_iconst (v := zi 0) hx hb d_M_isStation_16 rfl ?_
      exact ze_z hx hb hr hlocks (zB.w (zb_c 0) (by decide) (by decide)) hq d_M_isStation_17
    · replace hq := (if_pos c_4).symm.trans hq
      refine lv_iconst (v := zi 1) hx hb d_M_isStation_12 rfl ?_
      refine lv_goto (tgt := 17) hx hb d_M_isStation_13 (by decide) ?_
      exact ze_z hx hb hr hlocks (zB.w (zb_c 1) (by decide) (by decide)) hq d_M_isStation_17
def f_M_square (a : Int) : Int := a * a
theorem br_M_square (a : Int) (h : zB (-1800000000) 1800000000 a) : zB 0 3240000000000000000 (f_M_square a) := zB.w (zb_sq (A := 1800000000) h) (by decide) (by decide)
set_option maxHeartbeats 4000000 in
set_option maxRecDepth 100000 in
theorem k_M_square (l : Launch) (a : Int) (hb_a : zB (-1800000000) 1800000000 a) : Met l y_M_square (Cond.code y_M_square c_M_square 2 (some .long) :: zT) { frames := 0, cells := 0, slots := 0, locals := 0 } (va_Pc ([.long (zl a)] : List Value) (fun _ => True)) (zR (.long (zl (f_M_square a)))) 0 0 (fun _ => False) := by
  refine zh (cc := c_M_square) (C := R_M) (by decide) rfl rfl (Nat.le_of_ble_eq_true rfl) ?_
  intro p e s m below meth c ls hx hb hr hlocks hml hown hname hts hl hB
  have hw : ∀ w9 ∈ zT, w9.before ([.long (zl a)] : List Value).toArray s = true := fun w9 h => hts w9 (List.mem_cons_of_mem _ h)
  obtain ⟨hl_a, hh_a⟩ := id hb_a
  generalize hq : f_M_square a = r
  unfold f_M_square at hq
  replace hl : lv_has ls 2 [(0, .long (zl a))] := hl
  refine lv_lload_n hx hb d_M_square_0 rfl (lv_at hl 0 rfl) ?_
  refine lv_lload_n hx hb d_M_square_1 rfl (lv_at hl 0 rfl) ?_
  have b_1 : zB 0 3240000000000000000 (a * a) := zB.w (zb_sq (A := 1800000000) (zB.w hb_a (by decide) (by decide))) (by decide) (by decide)
  refine zr_lmul hx hb d_M_square_2 ?_
  exact ze_l hx hb hr hlocks hq d_M_square_3
def f_M_root_l (v : Int) (z : Int → Int) : Nat → Int → Int → Int
  | 0, _, _ => 0
  | k + 1, t, w => if 1 < (w - t) then (if v < ((Int.tdiv (t + w) 2) * (Int.tdiv (t + w) 2)) then (f_M_root_l v z k t (Int.tdiv (t + w) 2)) else (f_M_root_l v z k (Int.tdiv (t + w) 2) w)) else (z t)
theorem f_M_root_l_s (v : Int) (z : Int → Int) (k : Nat) (t w : Int) : f_M_root_l v z (k + 1) t w = (if 1 < (w - t) then (if v < ((Int.tdiv (t + w) 2) * (Int.tdiv (t + w) 2)) then (f_M_root_l v z k t (Int.tdiv (t + w) 2)) else (f_M_root_l v z k (Int.tdiv (t + w) 2) w)) else (z t)) := rfl
def f_M_root (v : Int) : Int := f_M_root_l v (fun t => t) 100001 0 100000
set_option maxHeartbeats 4000000 in
set_option maxRecDepth 100000 in
theorem k_M_root (l : Launch) (v : Int) (hb_v : zB 0 1800000000 v) : Met l y_M_root (Cond.code y_M_root c_M_root 9 (some .int) :: zT) { frames := 0, cells := 0, slots := 0, locals := 0 } (va_Pc ([.long (zl v)] : List Value) (fun _ => True)) (zR (.int (zi (f_M_root v)))) 0 0 (fun _ => False) := by
  refine zh (cc := c_M_root) (C := R_M) (by decide) rfl rfl (Nat.le_of_ble_eq_true rfl) ?_
  intro p e s m below meth c ls hx hb hr hlocks hml hown hname hts hl hB
  have hw : ∀ w9 ∈ zT, w9.before ([.long (zl v)] : List Value).toArray s = true := fun w9 h => hts w9 (List.mem_cons_of_mem _ h)
  obtain ⟨hl_v, hh_v⟩ := id hb_v
  generalize hq : f_M_root v = r
  unfold f_M_root at hq
  replace hl : lv_has ls 9 [(0, .long (zl v))] := hl
  refine lv_lconst (v := zl 0) hx hb d_M_root_0 (by decide) ?_
  refine lv_lstore_n (lv' := [(2, .long (zl 0)), (0, .long (zl v))]) hx hb d_M_root_1 rfl hl (by decide) rfl (fun ls hl => ?_)
  refine lv_ldc2 (v := zl 100000) hx hb hown (hw _ m_261) d_M_root_2 ?_
  refine lv_lstore (lv' := [(4, .long (zl 100000)), (2, .long (zl 0)), (0, .long (zl v))]) hx hb d_M_root_5 hl (by decide) rfl (fun ls hl => ?_)
  have L_l : ∀ (z : Int → Int), (∀ (t : Int), zB 0 100000 t → ∀ (ls : Array Slot), z t = r → lv_has ls 9 [(0, .long (zl v)), (2, .long (zl t))] → W p l e { frames := 0, cells := 0, slots := 0, locals := 0 } s m ([.long (zl v)] : List Value).toArray below meth c s.heap [] 0 0 (MQ below (zR (.int (zi r))) ([.long (zl v)] : List Value).toArray s 0 0 (fun _ => False)) (F0 m 72 ls [])) → ∀ (k : Nat) (t w : Int) (ls : Array Slot), zB 0 100000 t → zB 0 100000 w → t < w → w - t < (k : Int) → f_M_root_l v z k t w = r → lv_has ls 9 [(0, .long (zl v)), (2, .long (zl t)), (4, .long (zl w))] → W p l e { frames := 0, cells := 0, slots := 0, locals := 0 } s m ([.long (zl v)] : List Value).toArray below meth c s.heap [] 0 0 (MQ below (zR (.int (zi r))) ([.long (zl v)] : List Value).toArray s 0 0 (fun _ => False)) (F0 m 7 ls []) := by
    intro z hz k
    induction k with
    | zero =>
      intro t w ls hb_t hb_w hi_0 hk hq hl
      exact absurd hk (by have := hb_t.1; have := hb_t.2; have := hb_w.1; have := hb_w.2; omega)
    | succ k ih =>
      intro t w ls hb_t hb_w hi_0 hk hq hl
      obtain ⟨hl_t, hh_t⟩ := id hb_t
      obtain ⟨hl_w, hh_w⟩ := id hb_w
      replace hq := (f_M_root_l_s v z k t w).symm.trans hq
      refine lv_lload hx hb d_M_root_7 (lv_at hl 2 rfl) ?_
      refine lv_lload_n hx hb d_M_root_9 rfl (lv_at hl 1 rfl) ?_
      have b_1 : zB (-100000) 100000 (w - t) := zB.w (zb_sub hb_w hb_t) (by decide) (by decide)
      refine zr_lsub hx hb d_M_root_10 ?_
      refine lv_lconst (v := zl 1) hx hb d_M_root_11 (by decide) ?_
      refine zr_lcmp_le (tgt := 72) hx hb (zB.L b_1 (by decide) (by decide)) (zB.L (zb_c 1) (by decide) (by decide)) d_M_root_12 d_M_root_13 (by decide) (fun c_2 => ?_) (fun c_2 => ?_)
      · replace hq := (if_neg c_2).symm.trans hq
        have r_3 : zB (-100000) 1 (w - t) := ⟨b_1.1, (Int.not_lt.mp c_2)⟩
        exact hz t (zB.w hb_t (by decide) (by decide)) ls hq (lv_sub hl [0, 1] rfl)
      · replace hq := (if_pos c_2).symm.trans hq
        have r_4 : zB 2 100000 (w - t) := ⟨(Int.add_one_le_of_lt c_2), b_1.2⟩
        refine lv_lload_n hx hb d_M_root_16 rfl (lv_at hl 1 rfl) ?_
        refine lv_lload hx hb d_M_root_17 (lv_at hl 2 rfl) ?_
        have b_5 : zB 0 200000 (t + w) := zB.w (zb_add hb_t hb_w) (by decide) (by decide)
        refine zr_ladd hx hb d_M_root_19 ?_
        refine lv_ldc2 (v := zl 2) hx hb hown (hw _ m_262) d_M_root_20 ?_
        refine zr_ldiv hx hb (zB.L b_5 (by decide) (by decide)) (zB.L (zb_c 2) (by decide) (by decide)) (Int.lt_of_lt_of_le (by decide) (zb_c 2).1) d_M_root_23 ?_
        have b_6 : zB 0 100000 (Int.tdiv (t + w) 2) := zB.w (zb_tdivp (c := 2) b_5 (by decide) (by decide) (zb_c 2).1) (by decide) (by decide)
        have hmid := zmid (t := t) (w := w) (by omega) (by omega)
        refine lv_lstore (lv' := [(6, .long (zl (Int.tdiv (t + w) 2))), (0, .long (zl v)), (2, .long (zl t)), (4, .long (zl w))]) hx hb d_M_root_24 hl (by decide) rfl (fun ls hl => ?_)
        refine lv_lload hx hb d_M_root_26 (lv_at hl 0 rfl) ?_
        refine lv_lload hx hb d_M_root_28 (lv_at hl 0 rfl) ?_
        have b_7 : zB 0 10000000000 ((Int.tdiv (t + w) 2) * (Int.tdiv (t + w) 2)) := zB.w (zb_sq (A := 100000) (zB.w b_6 (by decide) (by decide))) (by decide) (by decide)
        refine zr_lmul hx hb d_M_root_30 ?_
        refine lv_lload_n hx hb d_M_root_31 rfl (lv_at hl 1 rfl) ?_
        refine zr_lcmp_gt (tgt := 40) hx hb (zB.L b_7 (by decide) (by decide)) (zB.L hb_v (by decide) (by decide)) d_M_root_32 d_M_root_33 (by decide) (fun c_8 => ?_) (fun c_8 => ?_)
        · replace hq := (if_pos c_8).symm.trans hq
          refine lv_iconst (v := zi 0) hx hb d_M_root_40 rfl ?_
          refine lv_istore (lv' := [(8, .int (zi 0)), (6, .long (zl (Int.tdiv (t + w) 2))), (0, .long (zl v)), (2, .long (zl t)), (4, .long (zl w))]) hx hb d_M_root_41 hl (by decide) rfl (fun ls hl => ?_)
          refine lv_iload hx hb d_M_root_43 (lv_at hl 0 rfl) ?_
          refine zr_if_eq (tgt := 53) hx hb (zB.I (zb_c 0) (by decide) (by decide)) d_M_root_45 (by decide) (fun _ => ?_) (fun c => absurd (by decide : (0 : Int) = 0) c)
          refine lv_lload_n hx hb d_M_root_53 rfl (lv_at hl 3 rfl) ?_
          refine lv_lstore_n (lv' := [(2, .long (zl t)), (8, .int (zi 0)), (6, .long (zl (Int.tdiv (t + w) 2))), (0, .long (zl v)), (4, .long (zl w))]) hx hb d_M_root_54 rfl hl (by decide) rfl (fun ls hl => ?_)
          refine lv_iload hx hb d_M_root_55 (lv_at hl 1 rfl) ?_
          refine zr_if_eq (tgt := 65) hx hb (zB.I (zb_c 0) (by decide) (by decide)) d_M_root_57 (by decide) (fun _ => ?_) (fun c => absurd (by decide : (0 : Int) = 0) c)
          refine lv_lload hx hb d_M_root_65 (lv_at hl 2 rfl) ?_
          refine lv_lstore (lv' := [(4, .long (zl (Int.tdiv (t + w) 2))), (2, .long (zl t)), (8, .int (zi 0)), (6, .long (zl (Int.tdiv (t + w) 2))), (0, .long (zl v))]) hx hb d_M_root_67 hl (by decide) rfl (fun ls hl => ?_)
          refine lv_goto (tgt := 7) hx hb d_M_root_69 (by decide) ?_
          exact ih t (Int.tdiv (t + w) 2) ls (zB.w hb_t (by decide) (by decide)) (zB.w b_6 (by decide) (by decide)) (by omega) (by omega) hq (lv_sub hl [4, 1, 0] rfl)
        · replace hq := (if_neg c_8).symm.trans hq
          refine lv_iconst (v := zi 1) hx hb d_M_root_36 rfl ?_
          refine lv_goto (tgt := 41) hx hb d_M_root_37 (by decide) ?_
          refine lv_istore (lv' := [(8, .int (zi 1)), (6, .long (zl (Int.tdiv (t + w) 2))), (0, .long (zl v)), (2, .long (zl t)), (4, .long (zl w))]) hx hb d_M_root_41 hl (by decide) rfl (fun ls hl => ?_)
          refine lv_iload hx hb d_M_root_43 (lv_at hl 0 rfl) ?_
          refine zr_if_eq (tgt := 53) hx hb (zB.I (zb_c 1) (by decide) (by decide)) d_M_root_45 (by decide) (fun c => absurd c (by decide : ¬ (1 : Int) = 0)) (fun _ => ?_)
          refine lv_lload hx hb d_M_root_48 (lv_at hl 1 rfl) ?_
          refine lv_goto (tgt := 54) hx hb d_M_root_50 (by decide) ?_
          refine lv_lstore_n (lv' := [(2, .long (zl (Int.tdiv (t + w) 2))), (8, .int (zi 1)), (6, .long (zl (Int.tdiv (t + w) 2))), (0, .long (zl v)), (4, .long (zl w))]) hx hb d_M_root_54 rfl hl (by decide) rfl (fun ls hl => ?_)
          refine lv_iload hx hb d_M_root_55 (lv_at hl 1 rfl) ?_
          refine zr_if_eq (tgt := 65) hx hb (zB.I (zb_c 1) (by decide) (by decide)) d_M_root_57 (by decide) (fun c => absurd c (by decide : ¬ (1 : Int) = 0)) (fun _ => ?_)
          refine lv_lload hx hb d_M_root_60 (lv_at hl 4 rfl) ?_
          refine lv_goto (tgt := 67) hx hb d_M_root_62 (by decide) ?_
          refine lv_lstore (lv' := [(4, .long (zl w)), (2, .long (zl (Int.tdiv (t + w) 2))), (8, .int (zi 1)), (6, .long (zl (Int.tdiv (t + w) 2))), (0, .long (zl v))]) hx hb d_M_root_67 hl (by decide) rfl (fun ls hl => ?_)
          refine lv_goto (tgt := 7) hx hb d_M_root_69 (by decide) ?_
          exact ih (Int.tdiv (t + w) 2) w ls (zB.w b_6 (by decide) (by decide)) (zB.w hb_w (by decide) (by decide)) (by omega) (by omega) hq (lv_sub hl [4, 1, 0] rfl)
  refine L_l _ (fun t hb_t ls hq hl => ?_) 100001 0 100000 ls (zB.w (zb_c 0) (by decide) (by decide)) (zB.w (zb_c 100000) (by decide) (by decide)) (by omega) (by omega) hq (lv_sub hl [2, 1, 0] rfl)
  obtain ⟨hl_t, hh_t⟩ := id hb_t
  refine lv_lload_n hx hb d_M_root_72 rfl (lv_at hl 1 rfl) ?_
  refine zr_l2i hx hb d_M_root_73 ?_
  exact ze_i hx hb hr hlocks hq d_M_root_74
def f_M_beside (N : Nat → Int → Int) (a b d : Int) : Int := (((N 0 b) - (N 0 a)) * ((N 1 d) - (N 1 a))) - (((N 1 b) - (N 1 a)) * ((N 0 d) - (N 0 a)))
theorem br_M_beside (N : Nat → Int → Int) (a b d : Int) (hI : jN N) (_ : zB 0 59 a) (_ : zB 0 59 b) (_ : zB 0 59 d) : zB (-1800000000) 1800000000 (f_M_beside N a b d) :=
  zB.w (zb_sub (zb_mul (A := 30000) (B := 30000) (zB.w (zb_sub (jN_a0 hI b) (jN_a0 hI a)) (by decide) (by decide)) (zB.w (zb_sub (jN_a1 hI d) (jN_a1 hI a)) (by decide) (by decide))) (zb_mul (A := 30000) (B := 30000) (zB.w (zb_sub (jN_a1 hI b) (jN_a1 hI a)) (by decide) (by decide)) (zB.w (zb_sub (jN_a0 hI d) (jN_a0 hI a)) (by decide) (by decide)))) (by decide) (by decide)
set_option maxHeartbeats 4000000 in
set_option maxRecDepth 100000 in
theorem k_M_beside (l : Launch) (dC : Nat → ClassId) (dI : Nat → Nat → Nat) (ad : Nat → Nat) (cI : ClassId) (N : Nat → Int → Int) (k0 k1 k2 k3 : Int) (hI : jN N) (a b d : Int) (hb_a : zB 0 59 a) (hb_b : zB 0 59 b) (hb_d : zB 0 59 d) : Met l y_M_beside (Cond.code y_M_beside c_M_beside 8 (some .long) :: zT) { frames := 0, cells := 0, slots := 0, locals := 0 } (va_Pc ([.ref (ad 0), .int (zi a), .int (zi b), .int (zi d)] : List Value) (zWM dC dI ad cI N k0 k1 k2 k3)) (zR (.long (zl (f_M_beside N a b d)))) 0 0 (fun _ => False) := by
  refine zh (cc := c_M_beside) (C := R_M) (by decide) rfl rfl (Nat.le_of_ble_eq_true rfl) ?_
  intro p e s m below meth c ls hx hb hr hlocks hml hown hname hts hl hB
  have hw : ∀ w9 ∈ zT, w9.before ([.ref (ad 0), .int (zi a), .int (zi b), .int (zi d)] : List Value).toArray s = true := fun w9 h => hts w9 (List.mem_cons_of_mem _ h)
  obtain ⟨hP, hK⟩ := hB
  obtain ⟨hn0, hn1⟩ := id (jN_s0 hI)
  obtain ⟨hz0, hz1⟩ := id (jN_s1 hI)
  obtain ⟨hl_a, hh_a⟩ := id hb_a
  obtain ⟨hl_b, hh_b⟩ := id hb_b
  obtain ⟨hl_d, hh_d⟩ := id hb_d
  generalize hq : f_M_beside N a b d = r
  unfold f_M_beside at hq
  replace hl : lv_has ls 8 [(0, .ref (ad 0)), (1, .int (zi a)), (2, .int (zi b)), (3, .int (zi d))] := hl
  refine lv_aload_n hx hb d_M_beside_0 rfl (lv_at hl 0 rfl) ?_
  refine va_get (D := (dC, dI)) (ci := 2) (v := .ref (ad 1)) (C := R_M) (T := T_M) (N := 17) hx hb hw i_M hown hK hP 0 rfl rfl 1 (by decide) (hw _ m_227) (fun _ h9 => h9) rfl d_M_beside_1 ?_
  refine lv_iload_n hx hb d_M_beside_4 rfl (lv_at hl 2 rfl) ?_
  refine zr_iald hx hb hK hP 1 0 (cA := cI) (n := 60) (g := N 0) rfl rfl (i := b) (by omega) (by omega) (by decide) d_M_beside_5 ?_
  refine lv_aload_n hx hb d_M_beside_6 rfl (lv_at hl 0 rfl) ?_
  refine va_get (D := (dC, dI)) (ci := 2) (v := .ref (ad 1)) (C := R_M) (T := T_M) (N := 17) hx hb hw i_M hown hK hP 0 rfl rfl 1 (by decide) (hw _ m_227) (fun _ h9 => h9) rfl d_M_beside_7 ?_
  refine lv_iload_n hx hb d_M_beside_10 rfl (lv_at hl 1 rfl) ?_
  refine zr_iald hx hb hK hP 1 0 (cA := cI) (n := 60) (g := N 0) rfl rfl (i := a) (by omega) (by omega) (by decide) d_M_beside_11 ?_
  have b_1 : zB (-30000) 30000 ((N 0 b) - (N 0 a)) := zB.w (zb_sub (jN_a0 hI b) (jN_a0 hI a)) (by decide) (by decide)
  refine zr_isub hx hb d_M_beside_12 ?_
  refine zr_i2l hx hb (zB.I b_1 (by decide) (by decide)) d_M_beside_13 ?_
  refine lv_lstore (lv' := [(4, .long (zl ((N 0 b) - (N 0 a)))), (0, .ref (ad 0)), (1, .int (zi a)), (2, .int (zi b)), (3, .int (zi d))]) hx hb d_M_beside_14 hl (by decide) rfl (fun ls hl => ?_)
  refine lv_aload_n hx hb d_M_beside_16 rfl (lv_at hl 1 rfl) ?_
  refine va_get (D := (dC, dI)) (ci := 2) (v := .ref (ad 2)) (C := R_M) (T := T_M) (N := 17) hx hb hw i_M hown hK hP 0 rfl rfl 2 (by decide) (hw _ m_228) (fun _ h9 => h9) rfl d_M_beside_17 ?_
  refine lv_iload_n hx hb d_M_beside_20 rfl (lv_at hl 3 rfl) ?_
  refine zr_iald hx hb hK hP 2 0 (cA := cI) (n := 60) (g := N 1) rfl rfl (i := b) (by omega) (by omega) (by decide) d_M_beside_21 ?_
  refine lv_aload_n hx hb d_M_beside_22 rfl (lv_at hl 1 rfl) ?_
  refine va_get (D := (dC, dI)) (ci := 2) (v := .ref (ad 2)) (C := R_M) (T := T_M) (N := 17) hx hb hw i_M hown hK hP 0 rfl rfl 2 (by decide) (hw _ m_228) (fun _ h9 => h9) rfl d_M_beside_23 ?_
  refine lv_iload_n hx hb d_M_beside_26 rfl (lv_at hl 2 rfl) ?_
  refine zr_iald hx hb hK hP 2 0 (cA := cI) (n := 60) (g := N 1) rfl rfl (i := a) (by omega) (by omega) (by decide) d_M_beside_27 ?_
  have b_2 : zB (-30000) 30000 ((N 1 b) - (N 1 a)) := zB.w (zb_sub (jN_a1 hI b) (jN_a1 hI a)) (by decide) (by decide)
  refine zr_isub hx hb d_M_beside_28 ?_
  refine zr_i2l hx hb (zB.I b_2 (by decide) (by decide)) d_M_beside_29 ?_
  refine lv_lstore (lv' := [(6, .long (zl ((N 1 b) - (N 1 a)))), (4, .long (zl ((N 0 b) - (N 0 a)))), (0, .ref (ad 0)), (1, .int (zi a)), (2, .int (zi b)), (3, .int (zi d))]) hx hb d_M_beside_30 hl (by decide) rfl (fun ls hl => ?_)
  refine lv_lload hx hb d_M_beside_32 (lv_at hl 1 rfl) ?_
  refine lv_aload_n hx hb d_M_beside_34 rfl (lv_at hl 2 rfl) ?_
  refine va_get (D := (dC, dI)) (ci := 2) (v := .ref (ad 2)) (C := R_M) (T := T_M) (N := 17) hx hb hw i_M hown hK hP 0 rfl rfl 2 (by decide) (hw _ m_228) (fun _ h9 => h9) rfl d_M_beside_35 ?_
  refine lv_iload_n hx hb d_M_beside_38 rfl (lv_at hl 5 rfl) ?_
  refine zr_iald hx hb hK hP 2 0 (cA := cI) (n := 60) (g := N 1) rfl rfl (i := d) (by omega) (by omega) (by decide) d_M_beside_39 ?_
  refine lv_aload_n hx hb d_M_beside_40 rfl (lv_at hl 2 rfl) ?_
  refine va_get (D := (dC, dI)) (ci := 2) (v := .ref (ad 2)) (C := R_M) (T := T_M) (N := 17) hx hb hw i_M hown hK hP 0 rfl rfl 2 (by decide) (hw _ m_228) (fun _ h9 => h9) rfl d_M_beside_41 ?_
  refine lv_iload_n hx hb d_M_beside_44 rfl (lv_at hl 3 rfl) ?_
  refine zr_iald hx hb hK hP 2 0 (cA := cI) (n := 60) (g := N 1) rfl rfl (i := a) (by omega) (by omega) (by decide) d_M_beside_45 ?_
  have b_3 : zB (-30000) 30000 ((N 1 d) - (N 1 a)) := zB.w (zb_sub (jN_a1 hI d) (jN_a1 hI a)) (by decide) (by decide)
  refine zr_isub hx hb d_M_beside_46 ?_
  refine zr_i2l hx hb (zB.I b_3 (by decide) (by decide)) d_M_beside_47 ?_
  have b_4 : zB (-900000000) 900000000 (((N 0 b) - (N 0 a)) * ((N 1 d) - (N 1 a))) := zB.w (zb_mul (A := 30000) (B := 30000) (zB.w b_1 (by decide) (by decide)) (zB.w b_3 (by decide) (by decide))) (by decide) (by decide)
  refine zr_lmul hx hb d_M_beside_48 ?_
  refine lv_lload hx hb d_M_beside_49 (lv_at hl 0 rfl) ?_
  refine lv_aload_n hx hb d_M_beside_51 rfl (lv_at hl 2 rfl) ?_
  refine va_get (D := (dC, dI)) (ci := 2) (v := .ref (ad 1)) (C := R_M) (T := T_M) (N := 17) hx hb hw i_M hown hK hP 0 rfl rfl 1 (by decide) (hw _ m_227) (fun _ h9 => h9) rfl d_M_beside_52 ?_
  refine lv_iload_n hx hb d_M_beside_55 rfl (lv_at hl 5 rfl) ?_
  refine zr_iald hx hb hK hP 1 0 (cA := cI) (n := 60) (g := N 0) rfl rfl (i := d) (by omega) (by omega) (by decide) d_M_beside_56 ?_
  refine lv_aload_n hx hb d_M_beside_57 rfl (lv_at hl 2 rfl) ?_
  refine va_get (D := (dC, dI)) (ci := 2) (v := .ref (ad 1)) (C := R_M) (T := T_M) (N := 17) hx hb hw i_M hown hK hP 0 rfl rfl 1 (by decide) (hw _ m_227) (fun _ h9 => h9) rfl d_M_beside_58 ?_
  refine lv_iload_n hx hb d_M_beside_61 rfl (lv_at hl 3 rfl) ?_
  refine zr_iald hx hb hK hP 1 0 (cA := cI) (n := 60) (g := N 0) rfl rfl (i := a) (by omega) (by omega) (by decide) d_M_beside_62 ?_
  have b_5 : zB (-30000) 30000 ((N 0 d) - (N 0 a)) := zB.w (zb_sub (jN_a0 hI d) (jN_a0 hI a)) (by decide) (by decide)
  refine zr_isub hx hb d_M_beside_63 ?_
  refine zr_i2l hx hb (zB.I b_5 (by decide) (by decide)) d_M_beside_64 ?_
  have b_6 : zB (-900000000) 900000000 (((N 1 b) - (N 1 a)) * ((N 0 d) - (N 0 a))) := zB.w (zb_mul (A := 30000) (B := 30000) (zB.w b_2 (by decide) (by decide)) (zB.w b_5 (by decide) (by decide))) (by decide) (by decide)
  refine zr_lmul hx hb d_M_beside_65 ?_
  have b_7 : zB (-1800000000) 1800000000 ((((N 0 b) - (N 0 a)) * ((N 1 d) - (N 1 a))) - (((N 1 b) - (N 1 a)) * ((N 0 d) - (N 0 a)))) := zB.w (zb_sub b_4 b_6) (by decide) (by decide)
  refine zr_lsub hx hb d_M_beside_66 ?_
  exact ze_l hx hb hr hlocks hq d_M_beside_67
