theorem fr_M_rootl (v : Int) : ∀ (k : Nat) (t w : Int), 0 ≤ t → t < w → t * t ≤ v → v < w * w → w - t < (k : Int) →
    0 ≤ f_M_root_l v (fun t => t) k t w ∧ f_M_root_l v (fun t => t) k t w * f_M_root_l v (fun t => t) k t w ≤ v ∧ v < (f_M_root_l v (fun t => t) k t w + 1) * (f_M_root_l v (fun t => t) k t w + 1) := by
  intro k
  induction k with
  | zero => intro t w h0 h1 h2 h3 hk; exact absurd hk (by omega)
  | succ k ih =>
    intro t w h0 h1 h2 h3 hk
    rw [f_M_root_l_s]
    by_cases c : 1 < w - t
    · have hm := zmid h0 c
      rw [if_pos c]
      by_cases c2 : v < Int.tdiv (t + w) 2 * Int.tdiv (t + w) 2
      · rw [if_pos c2]
        exact ih _ _ h0 hm.1 h2 c2 (by omega)
      · rw [if_neg c2]
        exact ih _ _ (by omega) hm.2 (by omega) h3 (by omega)
    · rw [if_neg c]
      have e : w = t + 1 := by omega
      rw [e] at h3
      exact ⟨h0, h2, h3⟩
theorem fr_M_root (v : Int) (h : zB 0 1800000000 v) : 0 ≤ f_M_root v ∧ f_M_root v * f_M_root v ≤ v ∧ v < (f_M_root v + 1) * (f_M_root v + 1) := by
  obtain ⟨h1, h2⟩ := h
  exact fr_M_rootl v 100001 0 100000 (by decide) (by decide) (by omega) (by omega) (by decide)
theorem br_M_root (v : Int) (h : zB 0 1800000000 v) : zB 0 100000 (f_M_root v) := by
  have h1 := fr_M_root v h
  have h2 := zq_le h1.1 h1.2.1 h.2
  exact ⟨h1.1, by omega⟩
def f_M_isBlind (N : Nat → Int → Int) (a v : Int) : Int := if (f_M_remaining N a v) < (f_M_needOf N a v (N 4 a)) then (0) else (if (f_M_sightOf N a v) < (f_M_needOf N a v (N 4 a)) then (1) else (0))
theorem bb_M_isBlind (N : Nat → Int → Int) (a v : Int) : zB 0 1 (f_M_isBlind N a v) := by
  unfold f_M_isBlind
  repeat' split
  all_goals first | exact ⟨by decide, by decide⟩  | apply bb_M_within
set_option maxHeartbeats 4000000 in
set_option maxRecDepth 100000 in
theorem k_M_isBlind (l : Launch) (dC : Nat → ClassId) (dI : Nat → Nat → Nat) (ad : Nat → Nat) (cI : ClassId) (N : Nat → Int → Int) (k0 k1 k2 k3 : Int) (hI : jN N) (hj : zJ 8 ad) (hb_k0 : zB (-115000) 115000 k0) (hb_k1 : zB (-115000) 115000 k1) (hb_k2 : zB (-115000) 115000 k2) (hb_k3 : zB (-115000) 115000 k3) (a v : Int) (hb_a : zB 0 59 a) (hb_v : zB 0 1 v) (hy_0 : a < N 7 0) : Met l y_M_isBlind (Cond.code y_M_isBlind c_M_isBlind 4 (some .boolean) :: zT) { frames := 5, cells := 0, slots := 0, locals := 120 } (va_Pc ([.ref (ad 0), .int (zi a), .int (zi v)] : List Value) (zWM dC dI ad cI N k0 k1 k2 k3)) (zQ (some (.int (zi (f_M_isBlind N a v)))) (fun H => ∃ k0 k1 k2 k3 : Int, zB (-115000) 115000 k0 ∧ zB (-115000) 115000 k1 ∧ zB (-115000) 115000 k2 ∧ zB (-115000) 115000 k3 ∧ va_P (dC, dI) classes (wM ad cI N k0 k1 k2 k3) H) (zAM ad)) 0 0 (zAM ad) := by
  refine zh (cc := c_M_isBlind) (C := R_M) (by decide) rfl rfl (Nat.le_of_ble_eq_true rfl) ?_
  intro p e s m below meth c ls hx hb hr hlocks hml hown hname hts hl hB
  have hw : ∀ w9 ∈ zT, w9.before ([.ref (ad 0), .int (zi a), .int (zi v)] : List Value).toArray s = true := fun w9 h => hts w9 (List.mem_cons_of_mem _ h)
  obtain ⟨hP, hK⟩ := hB
  obtain ⟨hn0, hn1⟩ := id (jN_s0 hI)
  have hD := zDM hj cI
  have hS : va_S (zAM ad) s.heap s.heap [] := va_S.rf
  obtain ⟨hz0, hz1⟩ := id (jN_s1 hI)
  obtain ⟨hl_a, hh_a⟩ := id hb_a
  obtain ⟨hl_v, hh_v⟩ := id hb_v
  generalize hq : f_M_isBlind N a v = r
  unfold f_M_isBlind at hq
  replace hl : lv_has ls 4 [(0, .ref (ad 0)), (1, .int (zi a)), (2, .int (zi v))] := hl
  refine lv_aload_n hx hb d_M_isBlind_0 rfl (lv_at hl 0 rfl) ?_
  refine lv_iload_n hx hb d_M_isBlind_1 rfl (lv_at hl 1 rfl) ?_
  refine lv_iload_n hx hb d_M_isBlind_2 rfl (lv_at hl 2 rfl) ?_
  refine lv_aload_n hx hb d_M_isBlind_3 rfl (lv_at hl 0 rfl) ?_
  refine va_get (D := (dC, dI)) (ci := 2) (v := .ref (ad 5)) (C := R_M) (T := T_M) (N := 17) hx hb hw i_M hown hK hP 0 rfl rfl 5 (by decide) (hw _ m_231) (fun _ h9 => h9) rfl d_M_isBlind_4 ?_
  refine lv_iload_n hx hb d_M_isBlind_7 rfl (lv_at hl 1 rfl) ?_
  refine zr_iald hx hb hK hP 5 0 (cA := cI) (n := 60) (g := N 4) rfl rfl (i := a) (by omega) (by omega) (by decide) d_M_isBlind_8 ?_
  refine zc_n (va_runV (As := [.int (zi a), .int (zi v), .int (zi (N 4 a))]) (rest := []) ⟨hx, hb, hml, hown, hts⟩ (k_M_needOf l dC dI ad cI N k0 k1 k2 k3 hI a v (N 4 a) (zB.w hb_a (by decide) (by decide)) (zB.w hb_v (by decide) (by decide)) (zB.w (jN_a4 hI a) (by decide) (by decide)) (by omega)) (zcV 3 hts m_331 m_3 m_329 m_330 m_401 rfl rfl q_M_needOf ⟨Nat.le_of_ble_eq_true rfl, Nat.le_of_ble_eq_true rfl⟩) (zpM0 hP hK [.int (zi a), .int (zi v), .int (zi (N 4 a))]) rfl rfl hl.1 rfl (lv_room (Nat.le_of_ble_eq_true rfl)) d_M_isBlind_9 ⟨Nat.zero_le _, Nat.zero_le _⟩) ?_
  have b_1 : zB 0 82716 (f_M_needOf N a v (N 4 a)) := br_M_needOf N a v (N 4 a) hI (zB.w hb_a (by decide) (by decide)) (zB.w hb_v (by decide) (by decide)) (zB.w (jN_a4 hI a) (by decide) (by decide)) (by omega)
  refine lv_istore_n (lv' := [(3, .int (zi (f_M_needOf N a v (N 4 a)))), (0, .ref (ad 0)), (1, .int (zi a)), (2, .int (zi v))]) hx hb d_M_isBlind_12 rfl hl (by decide) rfl (fun ls hl => ?_)
  refine lv_aload_n hx hb d_M_isBlind_13 rfl (lv_at hl 1 rfl) ?_
  refine lv_iload_n hx hb d_M_isBlind_14 rfl (lv_at hl 2 rfl) ?_
  refine lv_iload_n hx hb d_M_isBlind_15 rfl (lv_at hl 3 rfl) ?_
  refine zc_n (va_runV (As := [.int (zi a), .int (zi v)]) (rest := []) ⟨hx, hb, hml, hown, hts⟩ (k_M_remaining l dC dI ad cI N k0 k1 k2 k3 hI a v (zB.w hb_a (by decide) (by decide)) (zB.w hb_v (by decide) (by decide)) (by omega)) (zcV 2 hts m_345 m_3 m_343 m_344 m_403 rfl rfl q_M_remaining ⟨Nat.le_of_ble_eq_true rfl, Nat.le_of_ble_eq_true rfl⟩) (zpM0 hP hK [.int (zi a), .int (zi v)]) rfl rfl hl.1 rfl (lv_room (Nat.le_of_ble_eq_true rfl)) d_M_isBlind_16 ⟨Nat.zero_le _, Nat.zero_le _⟩) ?_
  have b_2 : zB (-2545620) 2545620 (f_M_remaining N a v) := br_M_remaining N a v hI (zB.w hb_a (by decide) (by decide)) (zB.w hb_v (by decide) (by decide)) (by omega)
  refine lv_iload_n hx hb d_M_isBlind_19 rfl (lv_at hl 0 rfl) ?_
  refine zr_icmp_lt (tgt := 37) hx hb (zB.I b_2 (by decide) (by decide)) (zB.I b_1 (by decide) (by decide)) d_M_isBlind_20 (by decide) (fun c_3 => ?_) (fun c_3 => ?_)
  · replace hq := (if_pos c_3).symm.trans hq
    refine lv_iconst (v := zi 0) hx hb d_M_isBlind_37 rfl ?_
    exact zw_z hx hb hr hlocks (zB.w (zb_c 0) (by decide) (by decide)) hq ⟨k0, k1, k2, k3, zB.w hb_k0 (by decide) (by decide), zB.w hb_k1 (by decide) (by decide), zB.w hb_k2 (by decide) (by decide), zB.w hb_k3 (by decide) (by decide), hP⟩ hS d_M_isBlind_38
  · replace hq := (if_neg c_3).symm.trans hq
    refine lv_aload_n hx hb d_M_isBlind_23 rfl (lv_at hl 1 rfl) ?_
    refine lv_iload_n hx hb d_M_isBlind_24 rfl (lv_at hl 2 rfl) ?_
    refine lv_iload_n hx hb d_M_isBlind_25 rfl (lv_at hl 3 rfl) ?_
    refine zc_w (va_runV (As := [.int (zi a), .int (zi v)]) (rest := []) ⟨hx, hb, hml, hown, hts⟩ (k_M_sightOf l dC dI ad cI N k0 k1 k2 k3 hI hj (zB.w hb_k0 (by decide) (by decide)) (zB.w hb_k1 (by decide) (by decide)) (zB.w hb_k2 (by decide) (by decide)) (zB.w hb_k3 (by decide) (by decide)) a v (zB.w hb_a (by decide) (by decide)) (zB.w hb_v (by decide) (by decide)) ) (zcV 2 hts m_324 m_3 m_322 m_323 m_400 rfl rfl q_M_sightOf ⟨Nat.le_of_ble_eq_true rfl, Nat.le_of_ble_eq_true rfl⟩) (zpM0 hP hK [.int (zi a), .int (zi v)]) rfl rfl hl.1 rfl (lv_room (Nat.le_of_ble_eq_true rfl)) d_M_isBlind_26 ⟨Nat.zero_le _, Nat.zero_le _⟩) hS (fun q _ h => h) (fun q h => h) (fun H locs hP hz1 hk1 hS => ?_)
    clear hz1 hk1
    obtain ⟨k0_e_4, k1_e_4, k2_e_4, k3_e_4, hk0_e_4, hk1_e_4, hk2_e_4, hk3_e_4, hP⟩ := hP
    have b_5 : zB (-2545620) 2545620 (f_M_sightOf N a v) := br_M_sightOf N a v hI (zB.w hb_a (by decide) (by decide)) (zB.w hb_v (by decide) (by decide)) 
    refine lv_iload_n hx hb d_M_isBlind_29 rfl (lv_at hl 0 rfl) ?_
    refine zr_icmp_ge (tgt := 37) hx hb (zB.I b_5 (by decide) (by decide)) (zB.I b_1 (by decide) (by decide)) d_M_isBlind_30 (by decide) (fun c_6 => ?_) (fun c_6 => ?_)
    · replace hq := (if_neg c_6).symm.trans hq
      refine lv_iconst (v := zi 0) hx hb d_M_isBlind_37 rfl ?_
      exact zw_z hx hb hr hlocks (zB.w (zb_c 0) (by decide) (by decide)) hq ⟨k0_e_4, k1_e_4, k2_e_4, k3_e_4, zB.w hk0_e_4 (by decide) (by decide), zB.w hk1_e_4 (by decide) (by decide), zB.w hk2_e_4 (by decide) (by decide), zB.w hk3_e_4 (by decide) (by decide), hP⟩ hS d_M_isBlind_38
    · replace hq := (if_pos c_6).symm.trans hq
      refine lv_iconst (v := zi 1) hx hb d_M_isBlind_33 rfl ?_
      refine lv_goto (tgt := 38) hx hb d_M_isBlind_34 (by decide) ?_
      exact zw_z hx hb hr hlocks (zB.w (zb_c 1) (by decide) (by decide)) hq ⟨k0_e_4, k1_e_4, k2_e_4, k3_e_4, zB.w hk0_e_4 (by decide) (by decide), zB.w hk1_e_4 (by decide) (by decide), zB.w hk2_e_4 (by decide) (by decide), zB.w hk3_e_4 (by decide) (by decide), hP⟩ hS d_M_isBlind_38
def f_M_way (N : Nat → Int → Int) (a : Int) : Int := if (f_M_isStation N a) = 0 then (-1) else (N 3 a)
set_option maxHeartbeats 4000000 in
set_option maxRecDepth 100000 in
theorem k_M_way (l : Launch) (dC : Nat → ClassId) (dI : Nat → Nat → Nat) (ad : Nat → Nat) (cI : ClassId) (N : Nat → Int → Int) (k0 k1 k2 k3 : Int) (hI : jN N) (a : Int) (hb_a : zB (-2147483648) 2147483647 a) : Met l y_M_way (Cond.code y_M_way c_M_way 2 (some .int) :: zT) { frames := 1, cells := 0, slots := 0, locals := 21 } (va_Pc ([.ref (ad 0), .int (zi a)] : List Value) (zWM dC dI ad cI N k0 k1 k2 k3)) (zR (.int (zi (f_M_way N a)))) 0 0 (fun _ => False) := by
  refine zh (cc := c_M_way) (C := R_M) (by decide) rfl rfl (Nat.le_of_ble_eq_true rfl) ?_
  intro p e s m below meth c ls hx hb hr hlocks hml hown hname hts hl hB
  have hw : ∀ w9 ∈ zT, w9.before ([.ref (ad 0), .int (zi a)] : List Value).toArray s = true := fun w9 h => hts w9 (List.mem_cons_of_mem _ h)
  obtain ⟨hP, hK⟩ := hB
  obtain ⟨hn0, hn1⟩ := id (jN_s0 hI)
  obtain ⟨hz0, hz1⟩ := id (jN_s1 hI)
  obtain ⟨hl_a, hh_a⟩ := id hb_a
  generalize hq : f_M_way N a = r
  unfold f_M_way at hq
  replace hl : lv_has ls 2 [(0, .ref (ad 0)), (1, .int (zi a))] := hl
  refine lv_aload_n hx hb d_M_way_0 rfl (lv_at hl 0 rfl) ?_
  refine lv_iload_n hx hb d_M_way_1 rfl (lv_at hl 1 rfl) ?_
  refine zc_n (va_runV (As := [.int (zi a)]) (rest := []) ⟨hx, hb, hml, hown, hts⟩ (k_M_isStation l dC dI ad cI N k0 k1 k2 k3 hI a (zB.w hb_a (by decide) (by decide)) ) (zcV 1 hts m_273 m_3 m_271 m_272 m_392 rfl rfl q_M_isStation ⟨Nat.le_of_ble_eq_true rfl, Nat.le_of_ble_eq_true rfl⟩) (zpM0 hP hK [.int (zi a)]) rfl rfl hl.1 rfl (lv_room (Nat.le_of_ble_eq_true rfl)) d_M_way_2 ⟨Nat.zero_le _, Nat.zero_le _⟩) ?_
  refine zr_if_eq (tgt := 17) hx hb (zB.I (bb_M_isStation N a) (by decide) (by decide)) d_M_way_5 (by decide) (fun c_1 => ?_) (fun c_1 => ?_)
  · replace hq := (if_pos c_1).symm.trans hq
    have r_2 : zB 0 0 (f_M_isStation N a) := ⟨(Int.le_of_eq c_1.symm), (Int.le_of_eq c_1)⟩
    refine lv_iconst (v := zi (-1)) hx hb d_M_way_17 rfl ?_
    exact ze_i hx hb hr hlocks hq d_M_way_18
  · replace hq := (if_neg c_1).symm.trans hq
    have r_3 : zB 1 1 (f_M_isStation N a) := ⟨(by have := (bb_M_isStation N a).1; omega), (bb_M_isStation N a).2⟩
    have g_4 := gf_M_isStation hI c_1
    obtain ⟨g_4l, g_4h⟩ := id g_4.1
    have g_4n := g_4.2
    refine lv_aload_n hx hb d_M_way_8 rfl (lv_at hl 0 rfl) ?_
    refine va_get (D := (dC, dI)) (ci := 2) (v := .ref (ad 4)) (C := R_M) (T := T_M) (N := 17) hx hb hw i_M hown hK hP 0 rfl rfl 4 (by decide) (hw _ m_230) (fun _ h9 => h9) rfl d_M_way_9 ?_
    refine lv_iload_n hx hb d_M_way_12 rfl (lv_at hl 1 rfl) ?_
    refine zr_iald hx hb hK hP 4 0 (cA := cI) (n := 60) (g := N 3) rfl rfl (i := a) (by omega) (by omega) (by decide) d_M_way_13 ?_
    refine lv_goto (tgt := 18) hx hb d_M_way_14 (by decide) ?_
    exact ze_i hx hb hr hlocks hq d_M_way_18
def f_M_view (N : Nat → Int → Int) (a b d : Int) : Int := if (f_M_isStation N a) = 0 then (-1) else (if (f_M_isStation N b) = 0 then (-1) else (if a = b then (-1) else (if (f_M_within d 0 1) = 0 then (-1) else (if d = 0 then (Int.tdiv (f_M_interrupter N a b) 100) else (if (f_M_interrupter N a b) = 0 then (-1) else (Int.tmod (f_M_interrupter N a b) 100))))))
set_option maxHeartbeats 4000000 in
set_option maxRecDepth 100000 in
theorem k_M_view (l : Launch) (dC : Nat → ClassId) (dI : Nat → Nat → Nat) (ad : Nat → Nat) (cI : ClassId) (N : Nat → Int → Int) (k0 k1 k2 k3 : Int) (hI : jN N) (hj : zJ 8 ad) (hb_k0 : zB (-115000) 115000 k0) (hb_k1 : zB (-115000) 115000 k1) (hb_k2 : zB (-115000) 115000 k2) (hb_k3 : zB (-115000) 115000 k3) (a b d : Int) (hb_a : zB (-2147483648) 2147483647 a) (hb_b : zB (-2147483648) 2147483647 b) (hb_d : zB (-2147483648) 2147483647 d) : Met l y_M_view (Cond.code y_M_view c_M_view 5 (some .int) :: zT) { frames := 4, cells := 0, slots := 0, locals := 96 } (va_Pc ([.ref (ad 0), .int (zi a), .int (zi b), .int (zi d)] : List Value) (zWM dC dI ad cI N k0 k1 k2 k3)) (zQ (some (.int (zi (f_M_view N a b d)))) (fun H => ∃ k0 k1 k2 k3 : Int, zB (-115000) 115000 k0 ∧ zB (-115000) 115000 k1 ∧ zB (-115000) 115000 k2 ∧ zB (-115000) 115000 k3 ∧ va_P (dC, dI) classes (wM ad cI N k0 k1 k2 k3) H) (zAM ad)) 0 0 (zAM ad) := by
  refine zh (cc := c_M_view) (C := R_M) (by decide) rfl rfl (Nat.le_of_ble_eq_true rfl) ?_
  intro p e s m below meth c ls hx hb hr hlocks hml hown hname hts hl hB
  have hw : ∀ w9 ∈ zT, w9.before ([.ref (ad 0), .int (zi a), .int (zi b), .int (zi d)] : List Value).toArray s = true := fun w9 h => hts w9 (List.mem_cons_of_mem _ h)
  obtain ⟨hP, hK⟩ := hB
  obtain ⟨hn0, hn1⟩ := id (jN_s0 hI)
  have hD := zDM hj cI
  have hS : va_S (zAM ad) s.heap s.heap [] := va_S.rf
  obtain ⟨hz0, hz1⟩ := id (jN_s1 hI)
  obtain ⟨hl_a, hh_a⟩ := id hb_a
  obtain ⟨hl_b, hh_b⟩ := id hb_b
  obtain ⟨hl_d, hh_d⟩ := id hb_d
  generalize hq : f_M_view N a b d = r
  unfold f_M_view at hq
  replace hl : lv_has ls 5 [(0, .ref (ad 0)), (1, .int (zi a)), (2, .int (zi b)), (3, .int (zi d))] := hl
  refine lv_aload_n hx hb d_M_view_0 rfl (lv_at hl 0 rfl) ?_
  refine lv_iload_n hx hb d_M_view_1 rfl (lv_at hl 1 rfl) ?_
  refine zc_n (va_runV (As := [.int (zi a)]) (rest := []) ⟨hx, hb, hml, hown, hts⟩ (k_M_isStation l dC dI ad cI N k0 k1 k2 k3 hI a (zB.w hb_a (by decide) (by decide)) ) (zcV 1 hts m_273 m_3 m_271 m_272 m_392 rfl rfl q_M_isStation ⟨Nat.le_of_ble_eq_true rfl, Nat.le_of_ble_eq_true rfl⟩) (zpM0 hP hK [.int (zi a)]) rfl rfl hl.1 rfl (lv_room (Nat.le_of_ble_eq_true rfl)) d_M_view_2 ⟨Nat.zero_le _, Nat.zero_le _⟩) ?_
  refine zr_if_eq (tgt := 30) hx hb (zB.I (bb_M_isStation N a) (by decide) (by decide)) d_M_view_5 (by decide) (fun c_1 => ?_) (fun c_1 => ?_)
  · replace hq := (if_pos c_1).symm.trans hq
    have r_2 : zB 0 0 (f_M_isStation N a) := ⟨(Int.le_of_eq c_1.symm), (Int.le_of_eq c_1)⟩
    refine lv_iconst (v := zi (-1)) hx hb d_M_view_30 rfl ?_
    exact zw_i hx hb hr hlocks hq ⟨k0, k1, k2, k3, zB.w hb_k0 (by decide) (by decide), zB.w hb_k1 (by decide) (by decide), zB.w hb_k2 (by decide) (by decide), zB.w hb_k3 (by decide) (by decide), hP⟩ hS d_M_view_31
  · replace hq := (if_neg c_1).symm.trans hq
    have r_3 : zB 1 1 (f_M_isStation N a) := ⟨(by have := (bb_M_isStation N a).1; omega), (bb_M_isStation N a).2⟩
    have g_4 := gf_M_isStation hI c_1
    obtain ⟨g_4l, g_4h⟩ := id g_4.1
    have g_4n := g_4.2
    refine lv_aload_n hx hb d_M_view_8 rfl (lv_at hl 0 rfl) ?_
    refine lv_iload_n hx hb d_M_view_9 rfl (lv_at hl 2 rfl) ?_
    refine zc_n (va_runV (As := [.int (zi b)]) (rest := []) ⟨hx, hb, hml, hown, hts⟩ (k_M_isStation l dC dI ad cI N k0 k1 k2 k3 hI b (zB.w hb_b (by decide) (by decide)) ) (zcV 1 hts m_273 m_3 m_271 m_272 m_392 rfl rfl q_M_isStation ⟨Nat.le_of_ble_eq_true rfl, Nat.le_of_ble_eq_true rfl⟩) (zpM0 hP hK [.int (zi b)]) rfl rfl hl.1 rfl (lv_room (Nat.le_of_ble_eq_true rfl)) d_M_view_10 ⟨Nat.zero_le _, Nat.zero_le _⟩) ?_
    refine zr_if_eq (tgt := 30) hx hb (zB.I (bb_M_isStation N b) (by decide) (by decide)) d_M_view_13 (by decide) (fun c_5 => ?_) (fun c_5 => ?_)
    · replace hq := (if_pos c_5).symm.trans hq
      have r_6 : zB 0 0 (f_M_isStation N b) := ⟨(Int.le_of_eq c_5.symm), (Int.le_of_eq c_5)⟩
      refine lv_iconst (v := zi (-1)) hx hb d_M_view_30 rfl ?_
      exact zw_i hx hb hr hlocks hq ⟨k0, k1, k2, k3, zB.w hb_k0 (by decide) (by decide), zB.w hb_k1 (by decide) (by decide), zB.w hb_k2 (by decide) (by decide), zB.w hb_k3 (by decide) (by decide), hP⟩ hS d_M_view_31
    · replace hq := (if_neg c_5).symm.trans hq
      have r_7 : zB 1 1 (f_M_isStation N b) := ⟨(by have := (bb_M_isStation N b).1; omega), (bb_M_isStation N b).2⟩
      have g_8 := gf_M_isStation hI c_5
      obtain ⟨g_8l, g_8h⟩ := id g_8.1
      have g_8n := g_8.2
      refine lv_iload_n hx hb d_M_view_16 rfl (lv_at hl 1 rfl) ?_
      refine lv_iload_n hx hb d_M_view_17 rfl (lv_at hl 2 rfl) ?_
      refine zr_icmp_eq (tgt := 30) hx hb (zB.I g_4.1 (by decide) (by decide)) (zB.I g_8.1 (by decide) (by decide)) d_M_view_18 (by decide) (fun c_9 => ?_) (fun c_9 => ?_)
      · replace hq := (if_pos c_9).symm.trans hq
        refine lv_iconst (v := zi (-1)) hx hb d_M_view_30 rfl ?_
        exact zw_i hx hb hr hlocks hq ⟨k0, k1, k2, k3, zB.w hb_k0 (by decide) (by decide), zB.w hb_k1 (by decide) (by decide), zB.w hb_k2 (by decide) (by decide), zB.w hb_k3 (by decide) (by decide), hP⟩ hS d_M_view_31
      · replace hq := (if_neg c_9).symm.trans hq
        refine lv_iload_n hx hb d_M_view_21 rfl (lv_at hl 3 rfl) ?_
        refine lv_iconst (v := zi 0) hx hb d_M_view_22 rfl ?_
        refine lv_iconst (v := zi 1) hx hb d_M_view_23 rfl ?_
        refine zc_n (va_runS (As := [.int (zi d), .int (zi 0), .int (zi 1)]) (rest := []) ⟨hx, hb, hml, hown, hts⟩ (k_M_within l d 0 1 (zB.w hb_d (by decide) (by decide)) (zB.w (zb_c 0) (by decide) (by decide)) (zB.w (zb_c 1) (by decide) (by decide)) ) (zcS 3 hts m_252 m_3 m_250 m_251 rfl rfl q_M_within ⟨Nat.le_of_ble_eq_true rfl, Nat.le_of_ble_eq_true rfl⟩) (zp0 [.int (zi d), .int (zi 0), .int (zi 1)]) rfl rfl hl.1 rfl (lv_room (Nat.le_of_ble_eq_true rfl)) d_M_view_24 ⟨Nat.zero_le _, Nat.zero_le _⟩) ?_
        refine zr_if_ne (tgt := 32) hx hb (zB.I (bb_M_within d 0 1) (by decide) (by decide)) d_M_view_27 (by decide) (fun c_10 => ?_) (fun c_10 => ?_)
        · replace hq := (if_neg c_10).symm.trans hq
          have r_11 : zB 1 1 (f_M_within d 0 1) := ⟨(by have := (bb_M_within d 0 1).1; omega), (bb_M_within d 0 1).2⟩
          have g_12 := gf_M_within c_10
          obtain ⟨g_12l, g_12h⟩ := id g_12
          refine lv_aload_n hx hb d_M_view_32 rfl (lv_at hl 0 rfl) ?_
          refine lv_iload_n hx hb d_M_view_33 rfl (lv_at hl 1 rfl) ?_
          refine lv_iload_n hx hb d_M_view_34 rfl (lv_at hl 2 rfl) ?_
          refine zc_w (va_runV (As := [.int (zi a), .int (zi b)]) (rest := []) ⟨hx, hb, hml, hown, hts⟩ (k_M_interrupter l dC dI ad cI N k0 k1 k2 k3 hI hj (zB.w hb_k0 (by decide) (by decide)) (zB.w hb_k1 (by decide) (by decide)) (zB.w hb_k2 (by decide) (by decide)) (zB.w hb_k3 (by decide) (by decide)) a b (zB.w g_4.1 (by decide) (by decide)) (zB.w g_8.1 (by decide) (by decide)) ) (zcV 2 hts m_296 m_3 m_294 m_295 m_393 rfl rfl q_M_interrupter ⟨Nat.le_of_ble_eq_true rfl, Nat.le_of_ble_eq_true rfl⟩) (zpM0 hP hK [.int (zi a), .int (zi b)]) rfl rfl hl.1 rfl (lv_room (Nat.le_of_ble_eq_true rfl)) d_M_view_35 ⟨Nat.zero_le _, Nat.zero_le _⟩) hS (fun q _ h => h) (fun q h => h) (fun H locs hP hz1 hk1 hS => ?_)
          clear hz1 hk1
          obtain ⟨k0_e_13, k1_e_13, k2_e_13, k3_e_13, hk0_e_13, hk1_e_13, hk2_e_13, hk3_e_13, hP⟩ := hP
          have b_14 : zB 0 400 (f_M_interrupter N a b) := br_M_interrupter N a b hI (zB.w g_4.1 (by decide) (by decide)) (zB.w g_8.1 (by decide) (by decide)) 
          refine lv_istore (lv' := [(4, .int (zi (f_M_interrupter N a b))), (0, .ref (ad 0)), (1, .int (zi a)), (2, .int (zi b)), (3, .int (zi d))]) hx hb d_M_view_38 hl (by decide) rfl (fun ls hl => ?_)
          refine lv_iload_n hx hb d_M_view_40 rfl (lv_at hl 4 rfl) ?_
          refine zr_if_ne (tgt := 52) hx hb (zB.I g_12 (by decide) (by decide)) d_M_view_41 (by decide) (fun c_15 => ?_) (fun c_15 => ?_)
          · replace hq := (if_neg c_15).symm.trans hq
            have r_16 : zB 1 1 d := ⟨(by have := g_12.1; omega), g_12.2⟩
            refine lv_iload hx hb d_M_view_52 (lv_at hl 0 rfl) ?_
            refine zr_if_ne (tgt := 61) hx hb (zB.I b_14 (by decide) (by decide)) d_M_view_54 (by decide) (fun c_17 => ?_) (fun c_17 => ?_)
            · replace hq := (if_neg c_17).symm.trans hq
              have r_18 : zB 1 400 (f_M_interrupter N a b) := ⟨(by have := b_14.1; omega), b_14.2⟩
              refine lv_iload hx hb d_M_view_61 (lv_at hl 0 rfl) ?_
              refine lv_bipush (v := zi 100) hx hb d_M_view_63 (by decide) ?_
              refine zr_irem hx hb (zB.I r_18 (by decide) (by decide)) (zB.I (zb_c 100) (by decide) (by decide)) (Int.lt_of_lt_of_le (by decide) (zb_c 100).1) d_M_view_65 ?_
              have b_19 : zB 0 99 (Int.tmod (f_M_interrupter N a b) 100) := zB.w (zb_tmodp r_18 (zb_c 100) (by decide) (by decide)) (by decide) (by decide)
              exact zw_i hx hb hr hlocks hq ⟨k0_e_13, k1_e_13, k2_e_13, k3_e_13, zB.w hk0_e_13 (by decide) (by decide), zB.w hk1_e_13 (by decide) (by decide), zB.w hk2_e_13 (by decide) (by decide), zB.w hk3_e_13 (by decide) (by decide), hP⟩ hS d_M_view_66
            · replace hq := (if_pos c_17).symm.trans hq
              have r_20 : zB 0 0 (f_M_interrupter N a b) := ⟨(Int.le_of_eq c_17.symm), (Int.le_of_eq c_17)⟩
              refine lv_iconst (v := zi (-1)) hx hb d_M_view_57 rfl ?_
              refine lv_goto (tgt := 66) hx hb d_M_view_58 (by decide) ?_
              exact zw_i hx hb hr hlocks hq ⟨k0_e_13, k1_e_13, k2_e_13, k3_e_13, zB.w hk0_e_13 (by decide) (by decide), zB.w hk1_e_13 (by decide) (by decide), zB.w hk2_e_13 (by decide) (by decide), zB.w hk3_e_13 (by decide) (by decide), hP⟩ hS d_M_view_66
          · replace hq := (if_pos c_15).symm.trans hq
            have r_21 : zB 0 0 d := ⟨(Int.le_of_eq c_15.symm), (Int.le_of_eq c_15)⟩
            refine lv_iload hx hb d_M_view_44 (lv_at hl 0 rfl) ?_
            refine lv_bipush (v := zi 100) hx hb d_M_view_46 (by decide) ?_
            refine zr_idiv hx hb (zB.I b_14 (by decide) (by decide)) (zB.I (zb_c 100) (by decide) (by decide)) (Int.lt_of_lt_of_le (by decide) (zb_c 100).1) d_M_view_48 ?_
            have b_22 : zB 0 4 (Int.tdiv (f_M_interrupter N a b) 100) := zB.w (zb_tdivp (c := 100) b_14 (by decide) (by decide) (zb_c 100).1) (by decide) (by decide)
            refine lv_goto (tgt := 66) hx hb d_M_view_49 (by decide) ?_
            exact zw_i hx hb hr hlocks hq ⟨k0_e_13, k1_e_13, k2_e_13, k3_e_13, zB.w hk0_e_13 (by decide) (by decide), zB.w hk1_e_13 (by decide) (by decide), zB.w hk2_e_13 (by decide) (by decide), zB.w hk3_e_13 (by decide) (by decide), hP⟩ hS d_M_view_66
        · replace hq := (if_pos c_10).symm.trans hq
          have r_23 : zB 0 0 (f_M_within d 0 1) := ⟨(Int.le_of_eq c_10.symm), (Int.le_of_eq c_10)⟩
          refine lv_iconst (v := zi (-1)) hx hb d_M_view_30 rfl ?_
          exact zw_i hx hb hr hlocks hq ⟨k0, k1, k2, k3, zB.w hb_k0 (by decide) (by decide), zB.w hb_k1 (by decide) (by decide), zB.w hb_k2 (by decide) (by decide), zB.w hb_k3 (by decide) (by decide), hP⟩ hS d_M_view_31
def f_M_sight (N : Nat → Int → Int) (a v : Int) : Int := if (f_M_isStation N a) = 0 then (-1) else (f_M_sightOf N a v)
set_option maxHeartbeats 4000000 in
set_option maxRecDepth 100000 in
theorem k_M_sight (l : Launch) (dC : Nat → ClassId) (dI : Nat → Nat → Nat) (ad : Nat → Nat) (cI : ClassId) (N : Nat → Int → Int) (k0 k1 k2 k3 : Int) (hI : jN N) (hj : zJ 8 ad) (hb_k0 : zB (-115000) 115000 k0) (hb_k1 : zB (-115000) 115000 k1) (hb_k2 : zB (-115000) 115000 k2) (hb_k3 : zB (-115000) 115000 k3) (a v : Int) (hb_a : zB (-2147483648) 2147483647 a) (hb_v : zB 0 1 v) : Met l y_M_sight (Cond.code y_M_sight c_M_sight 3 (some .int) :: zT) { frames := 5, cells := 0, slots := 0, locals := 120 } (va_Pc ([.ref (ad 0), .int (zi a), .int (zi v)] : List Value) (zWM dC dI ad cI N k0 k1 k2 k3)) (zQ (some (.int (zi (f_M_sight N a v)))) (fun H => ∃ k0 k1 k2 k3 : Int, zB (-115000) 115000 k0 ∧ zB (-115000) 115000 k1 ∧ zB (-115000) 115000 k2 ∧ zB (-115000) 115000 k3 ∧ va_P (dC, dI) classes (wM ad cI N k0 k1 k2 k3) H) (zAM ad)) 0 0 (zAM ad) := by
  refine zh (cc := c_M_sight) (C := R_M) (by decide) rfl rfl (Nat.le_of_ble_eq_true rfl) ?_
  intro p e s m below meth c ls hx hb hr hlocks hml hown hname hts hl hB
  have hw : ∀ w9 ∈ zT, w9.before ([.ref (ad 0), .int (zi a), .int (zi v)] : List Value).toArray s = true := fun w9 h => hts w9 (List.mem_cons_of_mem _ h)
  obtain ⟨hP, hK⟩ := hB
  obtain ⟨hn0, hn1⟩ := id (jN_s0 hI)
  have hD := zDM hj cI
  have hS : va_S (zAM ad) s.heap s.heap [] := va_S.rf
  obtain ⟨hz0, hz1⟩ := id (jN_s1 hI)
  obtain ⟨hl_a, hh_a⟩ := id hb_a
  obtain ⟨hl_v, hh_v⟩ := id hb_v
  generalize hq : f_M_sight N a v = r
  unfold f_M_sight at hq
  replace hl : lv_has ls 3 [(0, .ref (ad 0)), (1, .int (zi a)), (2, .int (zi v))] := hl
  refine lv_aload_n hx hb d_M_sight_0 rfl (lv_at hl 0 rfl) ?_
  refine lv_iload_n hx hb d_M_sight_1 rfl (lv_at hl 1 rfl) ?_
  refine zc_n (va_runV (As := [.int (zi a)]) (rest := []) ⟨hx, hb, hml, hown, hts⟩ (k_M_isStation l dC dI ad cI N k0 k1 k2 k3 hI a (zB.w hb_a (by decide) (by decide)) ) (zcV 1 hts m_273 m_3 m_271 m_272 m_392 rfl rfl q_M_isStation ⟨Nat.le_of_ble_eq_true rfl, Nat.le_of_ble_eq_true rfl⟩) (zpM0 hP hK [.int (zi a)]) rfl rfl hl.1 rfl (lv_room (Nat.le_of_ble_eq_true rfl)) d_M_sight_2 ⟨Nat.zero_le _, Nat.zero_le _⟩) ?_
  refine zr_if_eq (tgt := 17) hx hb (zB.I (bb_M_isStation N a) (by decide) (by decide)) d_M_sight_5 (by decide) (fun c_1 => ?_) (fun c_1 => ?_)
  · replace hq := (if_pos c_1).symm.trans hq
    have r_2 : zB 0 0 (f_M_isStation N a) := ⟨(Int.le_of_eq c_1.symm), (Int.le_of_eq c_1)⟩
    refine lv_iconst (v := zi (-1)) hx hb d_M_sight_17 rfl ?_
    exact zw_i hx hb hr hlocks hq ⟨k0, k1, k2, k3, zB.w hb_k0 (by decide) (by decide), zB.w hb_k1 (by decide) (by decide), zB.w hb_k2 (by decide) (by decide), zB.w hb_k3 (by decide) (by decide), hP⟩ hS d_M_sight_18
  · replace hq := (if_neg c_1).symm.trans hq
    have r_3 : zB 1 1 (f_M_isStation N a) := ⟨(by have := (bb_M_isStation N a).1; omega), (bb_M_isStation N a).2⟩
    have g_4 := gf_M_isStation hI c_1
    obtain ⟨g_4l, g_4h⟩ := id g_4.1
    have g_4n := g_4.2
    refine lv_aload_n hx hb d_M_sight_8 rfl (lv_at hl 0 rfl) ?_
    refine lv_iload_n hx hb d_M_sight_9 rfl (lv_at hl 1 rfl) ?_
    refine lv_iload_n hx hb d_M_sight_10 rfl (lv_at hl 2 rfl) ?_
    refine zc_w (va_runV (As := [.int (zi a), .int (zi v)]) (rest := []) ⟨hx, hb, hml, hown, hts⟩ (k_M_sightOf l dC dI ad cI N k0 k1 k2 k3 hI hj (zB.w hb_k0 (by decide) (by decide)) (zB.w hb_k1 (by decide) (by decide)) (zB.w hb_k2 (by decide) (by decide)) (zB.w hb_k3 (by decide) (by decide)) a v (zB.w g_4.1 (by decide) (by decide)) (zB.w hb_v (by decide) (by decide)) ) (zcV 2 hts m_324 m_3 m_322 m_323 m_400 rfl rfl q_M_sightOf ⟨Nat.le_of_ble_eq_true rfl, Nat.le_of_ble_eq_true rfl⟩) (zpM0 hP hK [.int (zi a), .int (zi v)]) rfl rfl hl.1 rfl (lv_room (Nat.le_of_ble_eq_true rfl)) d_M_sight_11 ⟨Nat.zero_le _, Nat.zero_le _⟩) hS (fun q _ h => h) (fun q h => h) (fun H locs hP hz1 hk1 hS => ?_)
    clear hz1 hk1
    obtain ⟨k0_e_5, k1_e_5, k2_e_5, k3_e_5, hk0_e_5, hk1_e_5, hk2_e_5, hk3_e_5, hP⟩ := hP
    have b_6 : zB (-2545620) 2545620 (f_M_sightOf N a v) := br_M_sightOf N a v hI (zB.w g_4.1 (by decide) (by decide)) (zB.w hb_v (by decide) (by decide)) 
    refine lv_goto (tgt := 18) hx hb d_M_sight_14 (by decide) ?_
    exact zw_i hx hb hr hlocks hq ⟨k0_e_5, k1_e_5, k2_e_5, k3_e_5, zB.w hk0_e_5 (by decide) (by decide), zB.w hk1_e_5 (by decide) (by decide), zB.w hk2_e_5 (by decide) (by decide), zB.w hk3_e_5 (by decide) (by decide), hP⟩ hS d_M_sight_18
def f_M_need (N : Nat → Int → Int) (a v : Int) : Int := if (f_M_isStation N a) = 0 then (-1) else (f_M_needOf N a v (N 4 a))
set_option maxHeartbeats 4000000 in
set_option maxRecDepth 100000 in
theorem k_M_need (l : Launch) (dC : Nat → ClassId) (dI : Nat → Nat → Nat) (ad : Nat → Nat) (cI : ClassId) (N : Nat → Int → Int) (k0 k1 k2 k3 : Int) (hI : jN N) (a v : Int) (hb_a : zB (-2147483648) 2147483647 a) (hb_v : zB 0 1 v) : Met l y_M_need (Cond.code y_M_need c_M_need 3 (some .int) :: zT) { frames := 2, cells := 0, slots := 0, locals := 49 } (va_Pc ([.ref (ad 0), .int (zi a), .int (zi v)] : List Value) (zWM dC dI ad cI N k0 k1 k2 k3)) (zR (.int (zi (f_M_need N a v)))) 0 0 (fun _ => False) := by
  refine zh (cc := c_M_need) (C := R_M) (by decide) rfl rfl (Nat.le_of_ble_eq_true rfl) ?_
  intro p e s m below meth c ls hx hb hr hlocks hml hown hname hts hl hB
  have hw : ∀ w9 ∈ zT, w9.before ([.ref (ad 0), .int (zi a), .int (zi v)] : List Value).toArray s = true := fun w9 h => hts w9 (List.mem_cons_of_mem _ h)
  obtain ⟨hP, hK⟩ := hB
  obtain ⟨hn0, hn1⟩ := id (jN_s0 hI)
  obtain ⟨hz0, hz1⟩ := id (jN_s1 hI)
  obtain ⟨hl_a, hh_a⟩ := id hb_a
  obtain ⟨hl_v, hh_v⟩ := id hb_v
  generalize hq : f_M_need N a v = r
  unfold f_M_need at hq
  replace hl : lv_has ls 3 [(0, .ref (ad 0)), (1, .int (zi a)), (2, .int (zi v))] := hl
  refine lv_aload_n hx hb d_M_need_0 rfl (lv_at hl 0 rfl) ?_
  refine lv_iload_n hx hb d_M_need_1 rfl (lv_at hl 1 rfl) ?_
  refine zc_n (va_runV (As := [.int (zi a)]) (rest := []) ⟨hx, hb, hml, hown, hts⟩ (k_M_isStation l dC dI ad cI N k0 k1 k2 k3 hI a (zB.w hb_a (by decide) (by decide)) ) (zcV 1 hts m_273 m_3 m_271 m_272 m_392 rfl rfl q_M_isStation ⟨Nat.le_of_ble_eq_true rfl, Nat.le_of_ble_eq_true rfl⟩) (zpM0 hP hK [.int (zi a)]) rfl rfl hl.1 rfl (lv_room (Nat.le_of_ble_eq_true rfl)) d_M_need_2 ⟨Nat.zero_le _, Nat.zero_le _⟩) ?_
  refine zr_if_eq (tgt := 23) hx hb (zB.I (bb_M_isStation N a) (by decide) (by decide)) d_M_need_5 (by decide) (fun c_1 => ?_) (fun c_1 => ?_)
  · replace hq := (if_pos c_1).symm.trans hq
    have r_2 : zB 0 0 (f_M_isStation N a) := ⟨(Int.le_of_eq c_1.symm), (Int.le_of_eq c_1)⟩
    refine lv_iconst (v := zi (-1)) hx hb d_M_need_23 rfl ?_
    exact ze_i hx hb hr hlocks hq d_M_need_24
  · replace hq := (if_neg c_1).symm.trans hq
    have r_3 : zB 1 1 (f_M_isStation N a) := ⟨(by have := (bb_M_isStation N a).1; omega), (bb_M_isStation N a).2⟩
    have g_4 := gf_M_isStation hI c_1
    obtain ⟨g_4l, g_4h⟩ := id g_4.1
    have g_4n := g_4.2
    refine lv_aload_n hx hb d_M_need_8 rfl (lv_at hl 0 rfl) ?_
    refine lv_iload_n hx hb d_M_need_9 rfl (lv_at hl 1 rfl) ?_
    refine lv_iload_n hx hb d_M_need_10 rfl (lv_at hl 2 rfl) ?_
    refine lv_aload_n hx hb d_M_need_11 rfl (lv_at hl 0 rfl) ?_
    refine va_get (D := (dC, dI)) (ci := 2) (v := .ref (ad 5)) (C := R_M) (T := T_M) (N := 17) hx hb hw i_M hown hK hP 0 rfl rfl 5 (by decide) (hw _ m_231) (fun _ h9 => h9) rfl d_M_need_12 ?_
    refine lv_iload_n hx hb d_M_need_15 rfl (lv_at hl 1 rfl) ?_
    refine zr_iald hx hb hK hP 5 0 (cA := cI) (n := 60) (g := N 4) rfl rfl (i := a) (by omega) (by omega) (by decide) d_M_need_16 ?_
    refine zc_n (va_runV (As := [.int (zi a), .int (zi v), .int (zi (N 4 a))]) (rest := []) ⟨hx, hb, hml, hown, hts⟩ (k_M_needOf l dC dI ad cI N k0 k1 k2 k3 hI a v (N 4 a) (zB.w g_4.1 (by decide) (by decide)) (zB.w hb_v (by decide) (by decide)) (zB.w (jN_a4 hI a) (by decide) (by decide)) (by omega)) (zcV 3 hts m_331 m_3 m_329 m_330 m_401 rfl rfl q_M_needOf ⟨Nat.le_of_ble_eq_true rfl, Nat.le_of_ble_eq_true rfl⟩) (zpM0 hP hK [.int (zi a), .int (zi v), .int (zi (N 4 a))]) rfl rfl hl.1 rfl (lv_room (Nat.le_of_ble_eq_true rfl)) d_M_need_17 ⟨Nat.zero_le _, Nat.zero_le _⟩) ?_
    have b_5 : zB 0 82716 (f_M_needOf N a v (N 4 a)) := br_M_needOf N a v (N 4 a) hI (zB.w g_4.1 (by decide) (by decide)) (zB.w hb_v (by decide) (by decide)) (zB.w (jN_a4 hI a) (by decide) (by decide)) (by omega)
    refine lv_goto (tgt := 24) hx hb d_M_need_20 (by decide) ?_
    exact ze_i hx hb hr hlocks hq d_M_need_24
def f_M_blind_n (N : Nat → Int → Int) (v : Int) (a : Int) (b : Int) (q : Int) (i : Int) (z : Int → Int) : Nat → Int → Int
  | 0, _ => 0
  | k + 1, j => if (j + 1) < (N 7 0) then (if (f_M_isBlind N (j + 1) v) = 0 then (z j) else (f_M_blind_n N v a b q i z k (j + 1))) else (z j)
theorem f_M_blind_n_s (N : Nat → Int → Int) (v : Int) (a : Int) (b : Int) (q : Int) (i : Int) (z : Int → Int) (k : Nat) (j : Int) : f_M_blind_n N v a b q i z (k + 1) j = (if (j + 1) < (N 7 0) then (if (f_M_isBlind N (j + 1) v) = 0 then (z j) else (f_M_blind_n N v a b q i z k (j + 1))) else (z j)) := rfl
def f_M_blind_o (N : Nat → Int → Int) (v : Int) (a : Int) (b : Int) (z : Int) : Nat → Int → Int → Int
  | 0, _, _ => 0
  | k + 1, q, i => if i < (N 7 0) then (if q < 0 then (z) else (if (f_M_within b 0 1) = 0 then (z) else (if (f_M_isBlind N i v) = 0 then (f_M_blind_o N v a b z k q (i + 1)) else (f_M_blind_n N v a b q i (fun j => if q = 0 then (if b = 0 then (i) else (j)) else (f_M_blind_o N v a b z k (q + (-1)) (j + 1))) 61 i)))) else (z)
theorem f_M_blind_o_s (N : Nat → Int → Int) (v : Int) (a : Int) (b : Int) (z : Int) (k : Nat) (q i : Int) : f_M_blind_o N v a b z (k + 1) q i = (if i < (N 7 0) then (if q < 0 then (z) else (if (f_M_within b 0 1) = 0 then (z) else (if (f_M_isBlind N i v) = 0 then (f_M_blind_o N v a b z k q (i + 1)) else (f_M_blind_n N v a b q i (fun j => if q = 0 then (if b = 0 then (i) else (j)) else (f_M_blind_o N v a b z k (q + (-1)) (j + 1))) 61 i)))) else (z)) := rfl
def f_M_blind (N : Nat → Int → Int) (v a b : Int) : Int := f_M_blind_o N v a b (-1) 61 a 0
set_option maxHeartbeats 4000000 in
set_option maxRecDepth 100000 in
theorem k_M_blind (l : Launch) (dC : Nat → ClassId) (dI : Nat → Nat → Nat) (ad : Nat → Nat) (cI : ClassId) (N : Nat → Int → Int) (k0 k1 k2 k3 : Int) (hI : jN N) (hj : zJ 8 ad) (hb_k0 : zB (-115000) 115000 k0) (hb_k1 : zB (-115000) 115000 k1) (hb_k2 : zB (-115000) 115000 k2) (hb_k3 : zB (-115000) 115000 k3) (v a b : Int) (hb_v : zB 0 1 v) (hb_a : zB (-2147483648) 2147483647 a) (hb_b : zB (-2147483648) 2147483647 b) : Met l y_M_blind (Cond.code y_M_blind c_M_blind 7 (some .int) :: zT) { frames := 6, cells := 0, slots := 0, locals := 143 } (va_Pc ([.ref (ad 0), .int (zi v), .int (zi a), .int (zi b)] : List Value) (zWM dC dI ad cI N k0 k1 k2 k3)) (zQ (some (.int (zi (f_M_blind N v a b)))) (fun H => ∃ k0 k1 k2 k3 : Int, zB (-115000) 115000 k0 ∧ zB (-115000) 115000 k1 ∧ zB (-115000) 115000 k2 ∧ zB (-115000) 115000 k3 ∧ va_P (dC, dI) classes (wM ad cI N k0 k1 k2 k3) H) (zAM ad)) 0 0 (zAM ad) := by
  refine zh (cc := c_M_blind) (C := R_M) (by decide) rfl rfl (Nat.le_of_ble_eq_true rfl) ?_
  intro p e s m below meth c ls hx hb hr hlocks hml hown hname hts hl hB
  have hw : ∀ w9 ∈ zT, w9.before ([.ref (ad 0), .int (zi v), .int (zi a), .int (zi b)] : List Value).toArray s = true := fun w9 h => hts w9 (List.mem_cons_of_mem _ h)
  obtain ⟨hP, hK⟩ := hB
  obtain ⟨hn0, hn1⟩ := id (jN_s0 hI)
  have hD := zDM hj cI
  have hS : va_S (zAM ad) s.heap s.heap [] := va_S.rf
  obtain ⟨hz0, hz1⟩ := id (jN_s1 hI)
  obtain ⟨hl_v, hh_v⟩ := id hb_v
  obtain ⟨hl_a, hh_a⟩ := id hb_a
  obtain ⟨hl_b, hh_b⟩ := id hb_b
  generalize hq : f_M_blind N v a b = r
  unfold f_M_blind at hq
  replace hl : lv_has ls 7 [(0, .ref (ad 0)), (1, .int (zi v)), (2, .int (zi a)), (3, .int (zi b))] := hl
  refine lv_iload_n hx hb d_M_blind_0 rfl (lv_at hl 2 rfl) ?_
  refine lv_istore (lv' := [(4, .int (zi a)), (0, .ref (ad 0)), (1, .int (zi v)), (2, .int (zi a)), (3, .int (zi b))]) hx hb d_M_blind_1 hl (by decide) rfl (fun ls hl => ?_)
  refine lv_iconst (v := zi 0) hx hb d_M_blind_3 rfl ?_
  refine lv_istore (lv' := [(5, .int (zi 0)), (4, .int (zi a)), (0, .ref (ad 0)), (1, .int (zi v)), (2, .int (zi a)), (3, .int (zi b))]) hx hb d_M_blind_4 hl (by decide) rfl (fun ls hl => ?_)
  have L_o : ∀ (z : Int), (∀ (ls : Array Slot) (H : Heap) (locs : List Loc) (k0 k1 k2 k3 : Int), zB (-115000) 115000 k0 → zB (-115000) 115000 k1 → zB (-115000) 115000 k2 → zB (-115000) 115000 k3 → va_P (dC, dI) classes (wM ad cI N k0 k1 k2 k3) H → va_S (zAM ad) s.heap H locs → z = r → lv_has ls 7 [(0, .ref (ad 0)), (1, .int (zi v)), (2, .int (zi a)), (3, .int (zi b))] → W p l e { frames := 6, cells := 0, slots := 0, locals := 143 } s m ([.ref (ad 0), .int (zi v), .int (zi a), .int (zi b)] : List Value).toArray below meth c H locs 0 0 (MQ below (zQ (some (.int (zi r))) (fun H => ∃ k0 k1 k2 k3 : Int, zB (-115000) 115000 k0 ∧ zB (-115000) 115000 k1 ∧ zB (-115000) 115000 k2 ∧ zB (-115000) 115000 k3 ∧ va_P (dC, dI) classes (wM ad cI N k0 k1 k2 k3) H) (zAM ad)) ([.ref (ad 0), .int (zi v), .int (zi a), .int (zi b)] : List Value).toArray s 0 0 (zAM ad)) (F0 m 98 ls [])) → ∀ (k : Nat) (q i : Int) (ls : Array Slot) (H : Heap) (locs : List Loc) (k0 k1 k2 k3 : Int), zB (-115000) 115000 k0 → zB (-115000) 115000 k1 → zB (-115000) 115000 k2 → zB (-115000) 115000 k3 → va_P (dC, dI) classes (wM ad cI N k0 k1 k2 k3) H → va_S (zAM ad) s.heap H locs → zB (-2147483648) 2147483647 q → zB 0 60 i → i ≤ N 7 0 → 60 - i < (k : Int) → f_M_blind_o N v a b z k q i = r → lv_has ls 7 [(0, .ref (ad 0)), (1, .int (zi v)), (2, .int (zi a)), (3, .int (zi b)), (4, .int (zi q)), (5, .int (zi i))] → W p l e { frames := 6, cells := 0, slots := 0, locals := 143 } s m ([.ref (ad 0), .int (zi v), .int (zi a), .int (zi b)] : List Value).toArray below meth c H locs 0 0 (MQ below (zQ (some (.int (zi r))) (fun H => ∃ k0 k1 k2 k3 : Int, zB (-115000) 115000 k0 ∧ zB (-115000) 115000 k1 ∧ zB (-115000) 115000 k2 ∧ zB (-115000) 115000 k3 ∧ va_P (dC, dI) classes (wM ad cI N k0 k1 k2 k3) H) (zAM ad)) ([.ref (ad 0), .int (zi v), .int (zi a), .int (zi b)] : List Value).toArray s 0 0 (zAM ad)) (F0 m 6 ls []) := by
    intro z hz k
    induction k with
    | zero =>
      intro q i ls H locs k0 k1 k2 k3 hk0 hk1 hk2 hk3 hP hS hb_q hb_i hi_0 hk hq hl
      exact absurd hk (by have := hb_q.1; have := hb_q.2; have := hb_i.1; have := hb_i.2; omega)
    | succ k ih =>
      intro q i ls H locs k0 k1 k2 k3 hk0 hk1 hk2 hk3 hP hS hb_q hb_i hi_0 hk hq hl
      obtain ⟨hl_q, hh_q⟩ := id hb_q
      obtain ⟨hl_i, hh_i⟩ := id hb_i
      replace hq := (f_M_blind_o_s N v a b z k q i).symm.trans hq
      refine lv_iload hx hb d_M_blind_6 (lv_at hl 5 rfl) ?_
      refine lv_aload_n hx hb d_M_blind_8 rfl (lv_at hl 0 rfl) ?_
      refine va_get (D := (dC, dI)) (ci := 2) (v := .int (zi (N 7 0))) (C := R_M) (T := T_M) (N := 17) hx hb hw i_M hown hK hP 0 rfl rfl 0 (by decide) (hw _ m_226) (fun _ h9 => h9) rfl d_M_blind_9 ?_
      refine zr_icmp_ge (tgt := 98) hx hb (zB.I hb_i (by decide) (by decide)) (zB.I (jN_s0 hI) (by decide) (by decide)) d_M_blind_12 (by decide) (fun c_1 => ?_) (fun c_1 => ?_)
      · replace hq := (if_neg c_1).symm.trans hq
        exact hz ls _ _ k0 k1 k2 k3 (zB.w hk0 (by decide) (by decide)) (zB.w hk1 (by decide) (by decide)) (zB.w hk2 (by decide) (by decide)) (zB.w hk3 (by decide) (by decide)) hP hS hq (lv_sub hl [0, 1, 2, 3] rfl)
      · replace hq := (if_pos c_1).symm.trans hq
        refine lv_iload hx hb d_M_blind_15 (lv_at hl 4 rfl) ?_
        refine zr_if_lt (tgt := 98) hx hb (zB.I hb_q (by decide) (by decide)) d_M_blind_17 (by decide) (fun c_2 => ?_) (fun c_2 => ?_)
        · replace hq := (if_pos c_2).symm.trans hq
          have r_3 : zB (-2147483648) (-1) q := ⟨hb_q.1, (Int.le_sub_one_of_lt c_2)⟩
          exact hz ls _ _ k0 k1 k2 k3 (zB.w hk0 (by decide) (by decide)) (zB.w hk1 (by decide) (by decide)) (zB.w hk2 (by decide) (by decide)) (zB.w hk3 (by decide) (by decide)) hP hS hq (lv_sub hl [0, 1, 2, 3] rfl)
        · replace hq := (if_neg c_2).symm.trans hq
          have r_4 : zB 0 2147483647 q := ⟨(Int.not_lt.mp c_2), hb_q.2⟩
          refine lv_iload_n hx hb d_M_blind_20 rfl (lv_at hl 3 rfl) ?_
          refine lv_iconst (v := zi 0) hx hb d_M_blind_21 rfl ?_
          refine lv_iconst (v := zi 1) hx hb d_M_blind_22 rfl ?_
          refine zc_n (va_runS (As := [.int (zi b), .int (zi 0), .int (zi 1)]) (rest := []) ⟨hx, hb, hml, hown, hts⟩ (k_M_within l b 0 1 (zB.w hb_b (by decide) (by decide)) (zB.w (zb_c 0) (by decide) (by decide)) (zB.w (zb_c 1) (by decide) (by decide)) ) (zcS 3 hts m_252 m_3 m_250 m_251 rfl rfl q_M_within ⟨Nat.le_of_ble_eq_true rfl, Nat.le_of_ble_eq_true rfl⟩) (zp0 [.int (zi b), .int (zi 0), .int (zi 1)]) rfl rfl hl.1 rfl (lv_room (Nat.le_of_ble_eq_true rfl)) d_M_blind_23 ⟨Nat.zero_le _, Nat.zero_le _⟩) ?_
          refine zr_if_eq (tgt := 98) hx hb (zB.I (bb_M_within b 0 1) (by decide) (by decide)) d_M_blind_26 (by decide) (fun c_5 => ?_) (fun c_5 => ?_)
          · replace hq := (if_pos c_5).symm.trans hq
            have r_6 : zB 0 0 (f_M_within b 0 1) := ⟨(Int.le_of_eq c_5.symm), (Int.le_of_eq c_5)⟩
            exact hz ls _ _ k0 k1 k2 k3 (zB.w hk0 (by decide) (by decide)) (zB.w hk1 (by decide) (by decide)) (zB.w hk2 (by decide) (by decide)) (zB.w hk3 (by decide) (by decide)) hP hS hq (lv_sub hl [0, 1, 2, 3] rfl)
          · replace hq := (if_neg c_5).symm.trans hq
            have r_7 : zB 1 1 (f_M_within b 0 1) := ⟨(by have := (bb_M_within b 0 1).1; omega), (bb_M_within b 0 1).2⟩
            have g_8 := gf_M_within c_5
            obtain ⟨g_8l, g_8h⟩ := id g_8
            refine lv_aload_n hx hb d_M_blind_29 rfl (lv_at hl 0 rfl) ?_
            refine lv_iload hx hb d_M_blind_30 (lv_at hl 5 rfl) ?_
            refine lv_iload_n hx hb d_M_blind_32 rfl (lv_at hl 1 rfl) ?_
            refine zc_w (va_runV (As := [.int (zi i), .int (zi v)]) (rest := []) ⟨hx, hb, hml, hown, hts⟩ (k_M_isBlind l dC dI ad cI N k0 k1 k2 k3 hI hj (zB.w hk0 (by decide) (by decide)) (zB.w hk1 (by decide) (by decide)) (zB.w hk2 (by decide) (by decide)) (zB.w hk3 (by decide) (by decide)) i v ⟨by omega, by omega⟩ (zB.w hb_v (by decide) (by decide)) (by omega)) (zcV 2 hts m_342 m_3 m_340 m_341 m_402 rfl rfl q_M_isBlind ⟨Nat.le_of_ble_eq_true rfl, Nat.le_of_ble_eq_true rfl⟩) (zpM0 hP hK [.int (zi i), .int (zi v)]) rfl rfl hl.1 rfl (lv_room (Nat.le_of_ble_eq_true rfl)) d_M_blind_33 ⟨Nat.zero_le _, Nat.zero_le _⟩) hS (fun q _ h => h) (fun q h => h) (fun H locs hP hz1 hk1 hS => ?_)
            clear hz1 hk1
            obtain ⟨k0_e_9, k1_e_9, k2_e_9, k3_e_9, hk0_e_9, hk1_e_9, hk2_e_9, hk3_e_9, hP⟩ := hP
            refine zr_if_eq (tgt := 92) hx hb (zB.I (bb_M_isBlind N i v) (by decide) (by decide)) d_M_blind_36 (by decide) (fun c_10 => ?_) (fun c_10 => ?_)
            · replace hq := (if_pos c_10).symm.trans hq
              have r_11 : zB 0 0 (f_M_isBlind N i v) := ⟨(Int.le_of_eq c_10.symm), (Int.le_of_eq c_10)⟩
              have b_12 : zB 1 61 (i + 1) := zB.w (zb_add hb_i (zb_c 1)) (by decide) (by decide)
              refine lv_iinc (v := zi (i + 1)) (lv' := [(5, .int (zi (i + 1))), (0, .ref (ad 0)), (1, .int (zi v)), (2, .int (zi a)), (3, .int (zi b)), (4, .int (zi q))]) hx hb d_M_blind_92 hl (k := 5) rfl (zi_add _ _) (by decide) rfl (fun ls hl => ?_)
              refine lv_goto (tgt := 6) hx hb d_M_blind_95 (by decide) ?_
              exact ih q (i + 1) ls _ _ k0_e_9 k1_e_9 k2_e_9 k3_e_9 (zB.w hk0_e_9 (by decide) (by decide)) (zB.w hk1_e_9 (by decide) (by decide)) (zB.w hk2_e_9 (by decide) (by decide)) (zB.w hk3_e_9 (by decide) (by decide)) hP hS (zB.w r_4 (by decide) (by decide)) ⟨by have h9 := b_12.1; have h8 := b_12.2; omega, by have h9 := b_12.1; have h8 := b_12.2; omega⟩ (by omega) (by omega) hq (lv_sub hl [1, 2, 3, 4, 5, 0] rfl)
            · replace hq := (if_neg c_10).symm.trans hq
              have r_13 : zB 1 1 (f_M_isBlind N i v) := ⟨(by have := (bb_M_isBlind N i v).1; omega), (bb_M_isBlind N i v).2⟩
              refine lv_iload hx hb d_M_blind_39 (lv_at hl 5 rfl) ?_
              refine lv_istore (lv' := [(6, .int (zi i)), (0, .ref (ad 0)), (1, .int (zi v)), (2, .int (zi a)), (3, .int (zi b)), (4, .int (zi q)), (5, .int (zi i))]) hx hb d_M_blind_41 hl (by decide) rfl (fun ls hl => ?_)
              have L_n : ∀ (z : Int → Int), (∀ (j : Int), zB 0 59 j → i ≤ j → j < N 7 0 → ∀ (ls : Array Slot) (H : Heap) (locs : List Loc) (k0 k1 k2 k3 : Int), zB (-115000) 115000 k0 → zB (-115000) 115000 k1 → zB (-115000) 115000 k2 → zB (-115000) 115000 k3 → va_P (dC, dI) classes (wM ad cI N k0 k1 k2 k3) H → va_S (zAM ad) s.heap H locs → z j = r → lv_has ls 7 [(0, .ref (ad 0)), (1, .int (zi v)), (2, .int (zi a)), (3, .int (zi b)), (4, .int (zi q)), (5, .int (zi j)), (6, .int (zi i))] → W p l e { frames := 6, cells := 0, slots := 0, locals := 143 } s m ([.ref (ad 0), .int (zi v), .int (zi a), .int (zi b)] : List Value).toArray below meth c H locs 0 0 (MQ below (zQ (some (.int (zi r))) (fun H => ∃ k0 k1 k2 k3 : Int, zB (-115000) 115000 k0 ∧ zB (-115000) 115000 k1 ∧ zB (-115000) 115000 k2 ∧ zB (-115000) 115000 k3 ∧ va_P (dC, dI) classes (wM ad cI N k0 k1 k2 k3) H) (zAM ad)) ([.ref (ad 0), .int (zi v), .int (zi a), .int (zi b)] : List Value).toArray s 0 0 (zAM ad)) (F0 m 72 ls [])) → ∀ (k : Nat) (j : Int) (ls : Array Slot) (H : Heap) (locs : List Loc) (k0 k1 k2 k3 : Int), zB (-115000) 115000 k0 → zB (-115000) 115000 k1 → zB (-115000) 115000 k2 → zB (-115000) 115000 k3 → va_P (dC, dI) classes (wM ad cI N k0 k1 k2 k3) H → va_S (zAM ad) s.heap H locs → zB 0 59 j → i ≤ j → j < N 7 0 → 60 - j < (k : Int) → f_M_blind_n N v a b q i z k j = r → lv_has ls 7 [(0, .ref (ad 0)), (1, .int (zi v)), (2, .int (zi a)), (3, .int (zi b)), (4, .int (zi q)), (5, .int (zi j)), (6, .int (zi i))] → W p l e { frames := 6, cells := 0, slots := 0, locals := 143 } s m ([.ref (ad 0), .int (zi v), .int (zi a), .int (zi b)] : List Value).toArray below meth c H locs 0 0 (MQ below (zQ (some (.int (zi r))) (fun H => ∃ k0 k1 k2 k3 : Int, zB (-115000) 115000 k0 ∧ zB (-115000) 115000 k1 ∧ zB (-115000) 115000 k2 ∧ zB (-115000) 115000 k3 ∧ va_P (dC, dI) classes (wM ad cI N k0 k1 k2 k3) H) (zAM ad)) ([.ref (ad 0), .int (zi v), .int (zi a), .int (zi b)] : List Value).toArray s 0 0 (zAM ad)) (F0 m 43 ls []) := by
                intro z hz k
                induction k with
                | zero =>
                  intro j ls H locs k0 k1 k2 k3 hk0 hk1 hk2 hk3 hP hS hb_j hi_0 hi_1 hk hq hl
                  exact absurd hk (by have := hb_j.1; have := hb_j.2; omega)
                | succ k ih =>
                  intro j ls H locs k0 k1 k2 k3 hk0 hk1 hk2 hk3 hP hS hb_j hi_0 hi_1 hk hq hl
                  obtain ⟨hl_j, hh_j⟩ := id hb_j
                  replace hq := (f_M_blind_n_s N v a b q i z k j).symm.trans hq
                  refine lv_iload hx hb d_M_blind_43 (lv_at hl 5 rfl) ?_
                  refine lv_iconst (v := zi 1) hx hb d_M_blind_45 rfl ?_
                  have b_14 : zB 1 60 (j + 1) := zB.w (zb_add hb_j (zb_c 1)) (by decide) (by decide)
                  refine zr_iadd hx hb d_M_blind_46 ?_
                  refine lv_aload_n hx hb d_M_blind_47 rfl (lv_at hl 0 rfl) ?_
                  refine va_get (D := (dC, dI)) (ci := 2) (v := .int (zi (N 7 0))) (C := R_M) (T := T_M) (N := 17) hx hb hw i_M hown hK hP 0 rfl rfl 0 (by decide) (hw _ m_226) (fun _ h9 => h9) rfl d_M_blind_48 ?_
                  refine zr_icmp_ge (tgt := 72) hx hb (zB.I b_14 (by decide) (by decide)) (zB.I (jN_s0 hI) (by decide) (by decide)) d_M_blind_51 (by decide) (fun c_15 => ?_) (fun c_15 => ?_)
                  · replace hq := (if_neg c_15).symm.trans hq
                    exact hz j (zB.w hb_j (by decide) (by decide)) (by omega) (by omega) ls _ _ k0 k1 k2 k3 (zB.w hk0 (by decide) (by decide)) (zB.w hk1 (by decide) (by decide)) (zB.w hk2 (by decide) (by decide)) (zB.w hk3 (by decide) (by decide)) hP hS hq (lv_sub hl [0, 1, 2, 3, 4, 5, 6] rfl)
                  · replace hq := (if_pos c_15).symm.trans hq
                    refine lv_aload_n hx hb d_M_blind_54 rfl (lv_at hl 0 rfl) ?_
                    refine lv_iload hx hb d_M_blind_55 (lv_at hl 5 rfl) ?_
                    refine lv_iconst (v := zi 1) hx hb d_M_blind_57 rfl ?_
                    refine zr_iadd hx hb d_M_blind_58 ?_
                    refine lv_iload_n hx hb d_M_blind_59 rfl (lv_at hl 1 rfl) ?_
                    refine zc_w (va_runV (As := [.int (zi (j + 1)), .int (zi v)]) (rest := []) ⟨hx, hb, hml, hown, hts⟩ (k_M_isBlind l dC dI ad cI N k0 k1 k2 k3 hI hj (zB.w hk0 (by decide) (by decide)) (zB.w hk1 (by decide) (by decide)) (zB.w hk2 (by decide) (by decide)) (zB.w hk3 (by decide) (by decide)) (j + 1) v ⟨by omega, by omega⟩ (zB.w hb_v (by decide) (by decide)) (by omega)) (zcV 2 hts m_342 m_3 m_340 m_341 m_402 rfl rfl q_M_isBlind ⟨Nat.le_of_ble_eq_true rfl, Nat.le_of_ble_eq_true rfl⟩) (zpM0 hP hK [.int (zi (j + 1)), .int (zi v)]) rfl rfl hl.1 rfl (lv_room (Nat.le_of_ble_eq_true rfl)) d_M_blind_60 ⟨Nat.zero_le _, Nat.zero_le _⟩) hS (fun q _ h => h) (fun q h => h) (fun H locs hP hz1 hk1 hS => ?_)
                    clear hz1 hk1
                    obtain ⟨k0_e_16, k1_e_16, k2_e_16, k3_e_16, hk0_e_16, hk1_e_16, hk2_e_16, hk3_e_16, hP⟩ := hP
                    refine zr_if_eq (tgt := 72) hx hb (zB.I (bb_M_isBlind N (j + 1) v) (by decide) (by decide)) d_M_blind_63 (by decide) (fun c_17 => ?_) (fun c_17 => ?_)
                    · replace hq := (if_pos c_17).symm.trans hq
                      have r_18 : zB 0 0 (f_M_isBlind N (j + 1) v) := ⟨(Int.le_of_eq c_17.symm), (Int.le_of_eq c_17)⟩
                      exact hz j (zB.w hb_j (by decide) (by decide)) (by omega) (by omega) ls _ _ k0_e_16 k1_e_16 k2_e_16 k3_e_16 (zB.w hk0_e_16 (by decide) (by decide)) (zB.w hk1_e_16 (by decide) (by decide)) (zB.w hk2_e_16 (by decide) (by decide)) (zB.w hk3_e_16 (by decide) (by decide)) hP hS hq (lv_sub hl [0, 1, 2, 3, 4, 5, 6] rfl)
                    · replace hq := (if_neg c_17).symm.trans hq
                      have r_19 : zB 1 1 (f_M_isBlind N (j + 1) v) := ⟨(by have := (bb_M_isBlind N (j + 1) v).1; omega), (bb_M_isBlind N (j + 1) v).2⟩
                      refine lv_iinc (v := zi (j + 1)) (lv' := [(5, .int (zi (j + 1))), (0, .ref (ad 0)), (1, .int (zi v)), (2, .int (zi a)), (3, .int (zi b)), (4, .int (zi q)), (6, .int (zi i))]) hx hb d_M_blind_66 hl (k := 5) rfl (zi_add _ _) (by decide) rfl (fun ls hl => ?_)
                      refine lv_goto (tgt := 43) hx hb d_M_blind_69 (by decide) ?_
                      exact ih (j + 1) ls _ _ k0_e_16 k1_e_16 k2_e_16 k3_e_16 (zB.w hk0_e_16 (by decide) (by decide)) (zB.w hk1_e_16 (by decide) (by decide)) (zB.w hk2_e_16 (by decide) (by decide)) (zB.w hk3_e_16 (by decide) (by decide)) hP hS ⟨by have h9 := b_14.1; have h8 := b_14.2; omega, by have h9 := b_14.1; have h8 := b_14.2; omega⟩ (by omega) (by omega) (by omega) hq (lv_sub hl [1, 2, 3, 4, 5, 0, 6] rfl)
              refine L_n _ (fun j hb_j ho_n0 ho_n1 ls H locs k0 k1 k2 k3 hk0 hk1 hk2 hk3 hP hS hq hl => ?_) 61 i ls _ _ k0_e_9 k1_e_9 k2_e_9 k3_e_9 (zB.w hk0_e_9 (by decide) (by decide)) (zB.w hk1_e_9 (by decide) (by decide)) (zB.w hk2_e_9 (by decide) (by decide)) (zB.w hk3_e_9 (by decide) (by decide)) hP hS ⟨by omega, by omega⟩ (by omega) (by omega) (by omega) hq (lv_sub hl [1, 2, 3, 4, 5, 6, 0] rfl)
              obtain ⟨hl_j, hh_j⟩ := id hb_j
              refine lv_iload hx hb d_M_blind_72 (lv_at hl 4 rfl) ?_
              refine zr_if_ne (tgt := 89) hx hb (zB.I r_4 (by decide) (by decide)) d_M_blind_74 (by decide) (fun c_20 => ?_) (fun c_20 => ?_)
              · replace hq := (if_neg c_20).symm.trans hq
                have r_21 : zB 1 2147483647 q := ⟨(by have := r_4.1; omega), r_4.2⟩
                have b_22 : zB 0 2147483646 (q + (-1)) := zB.w (zb_add r_21 (zb_c (-1))) (by decide) (by decide)
                refine lv_iinc (v := zi (q + (-1))) (lv' := [(4, .int (zi (q + (-1)))), (0, .ref (ad 0)), (1, .int (zi v)), (2, .int (zi a)), (3, .int (zi b)), (5, .int (zi j)), (6, .int (zi i))]) hx hb d_M_blind_89 hl (k := 4) rfl (zi_add _ _) (by decide) rfl (fun ls hl => ?_)
                have b_23 : zB 1 60 (j + 1) := zB.w (zb_add hb_j (zb_c 1)) (by decide) (by decide)
                refine lv_iinc (v := zi (j + 1)) (lv' := [(5, .int (zi (j + 1))), (4, .int (zi (q + (-1)))), (0, .ref (ad 0)), (1, .int (zi v)), (2, .int (zi a)), (3, .int (zi b)), (6, .int (zi i))]) hx hb d_M_blind_92 hl (k := 5) rfl (zi_add _ _) (by decide) rfl (fun ls hl => ?_)
                refine lv_goto (tgt := 6) hx hb d_M_blind_95 (by decide) ?_
                exact ih (q + (-1)) (j + 1) ls _ _ k0 k1 k2 k3 (zB.w hk0 (by decide) (by decide)) (zB.w hk1 (by decide) (by decide)) (zB.w hk2 (by decide) (by decide)) (zB.w hk3 (by decide) (by decide)) hP hS (zB.w b_22 (by decide) (by decide)) (zB.w b_23 (by decide) (by decide)) (by omega) (by omega) hq (lv_sub hl [2, 3, 4, 5, 1, 0] rfl)
              · replace hq := (if_pos c_20).symm.trans hq
                have r_24 : zB 0 0 q := ⟨(Int.le_of_eq c_20.symm), (Int.le_of_eq c_20)⟩
                refine lv_iload_n hx hb d_M_blind_77 rfl (lv_at hl 3 rfl) ?_
                refine zr_if_ne (tgt := 86) hx hb (zB.I g_8 (by decide) (by decide)) d_M_blind_78 (by decide) (fun c_25 => ?_) (fun c_25 => ?_)
                · replace hq := (if_neg c_25).symm.trans hq
                  have r_26 : zB 1 1 b := ⟨(by have := g_8.1; omega), g_8.2⟩
                  refine lv_iload hx hb d_M_blind_86 (lv_at hl 5 rfl) ?_
                  exact zw_i hx hb hr hlocks hq ⟨k0, k1, k2, k3, zB.w hk0 (by decide) (by decide), zB.w hk1 (by decide) (by decide), zB.w hk2 (by decide) (by decide), zB.w hk3 (by decide) (by decide), hP⟩ hS d_M_blind_88
                · replace hq := (if_pos c_25).symm.trans hq
                  have r_27 : zB 0 0 b := ⟨(Int.le_of_eq c_25.symm), (Int.le_of_eq c_25)⟩
                  refine lv_iload hx hb d_M_blind_81 (lv_at hl 6 rfl) ?_
                  refine lv_goto (tgt := 88) hx hb d_M_blind_83 (by decide) ?_
                  exact zw_i hx hb hr hlocks hq ⟨k0, k1, k2, k3, zB.w hk0 (by decide) (by decide), zB.w hk1 (by decide) (by decide), zB.w hk2 (by decide) (by decide), zB.w hk3 (by decide) (by decide), hP⟩ hS d_M_blind_88
  refine L_o _ (fun ls H locs k0 k1 k2 k3 hk0 hk1 hk2 hk3 hP hS hq hl => ?_) 61 a 0 ls _ _ k0 k1 k2 k3 (zB.w hb_k0 (by decide) (by decide)) (zB.w hb_k1 (by decide) (by decide)) (zB.w hb_k2 (by decide) (by decide)) (zB.w hb_k3 (by decide) (by decide)) hP hS (zB.w hb_a (by decide) (by decide)) (zB.w (zb_c 0) (by decide) (by decide)) (by omega) (by omega) hq (lv_sub hl [2, 3, 4, 5, 1, 0] rfl)
  refine lv_iconst (v := zi (-1)) hx hb d_M_blind_98 rfl ?_
  exact zw_i hx hb hr hlocks hq ⟨k0, k1, k2, k3, zB.w hk0 (by decide) (by decide), zB.w hk1 (by decide) (by decide), zB.w hk2 (by decide) (by decide), zB.w hk3 (by decide) (by decide), hP⟩ hS d_M_blind_99
def f_M_setBack_x (N : Nat → Int → Int) (a : Int) (b : Int) (w : Int) (i : Int) (u : Int) (j : Int) (z : Int → Int) : Nat → Int → Int
  | 0, _ => 0
  | k + 1, t => z t
theorem f_M_setBack_x_s (N : Nat → Int → Int) (a : Int) (b : Int) (w : Int) (i : Int) (u : Int) (j : Int) (z : Int → Int) (k : Nat) (t : Int) : f_M_setBack_x N a b w i u j z (k + 1) t = (z t) := rfl
def f_M_setBack_x2 (N : Nat → Int → Int) (a : Int) (b : Int) (w : Int) (i : Int) (u : Int) (j : Int) (z : Int → Int) : Nat → Int → Int
  | 0, _ => 0
  | k + 1, t => if 1000 < t then (z t) else (if ((f_M_square t) * (f_M_lengthSquare N i j)) < (f_M_square (f_M_beside N i j a)) then (f_M_setBack_x2 N a b w i u j z k (t + 1)) else (z t))
theorem f_M_setBack_x2_s (N : Nat → Int → Int) (a : Int) (b : Int) (w : Int) (i : Int) (u : Int) (j : Int) (z : Int → Int) (k : Nat) (t : Int) : f_M_setBack_x2 N a b w i u j z (k + 1) t = (if 1000 < t then (z t) else (if ((f_M_square t) * (f_M_lengthSquare N i j)) < (f_M_square (f_M_beside N i j a)) then (f_M_setBack_x2 N a b w i u j z k (t + 1)) else (z t))) := rfl
def f_M_setBack_x3 (N : Nat → Int → Int) (a : Int) (b : Int) (w : Int) (i : Int) (u : Int) (j : Int) (z : Int → Int) : Nat → Int → Int
  | 0, _ => 0
  | k + 1, t => z t
theorem f_M_setBack_x3_s (N : Nat → Int → Int) (a : Int) (b : Int) (w : Int) (i : Int) (u : Int) (j : Int) (z : Int → Int) (k : Nat) (t : Int) : f_M_setBack_x3 N a b w i u j z (k + 1) t = (z t) := rfl
def f_M_setBack_x4 (N : Nat → Int → Int) (a : Int) (b : Int) (w : Int) (i : Int) (u : Int) (j : Int) (z : Int → Int) : Nat → Int → Int
  | 0, _ => 0
  | k + 1, t => if 1000 < t then (z t) else (if ((f_M_square t) * (f_M_lengthSquare N i j)) < (f_M_square (f_M_beside N i j a)) then (f_M_setBack_x4 N a b w i u j z k (t + 1)) else (z t))
theorem f_M_setBack_x4_s (N : Nat → Int → Int) (a : Int) (b : Int) (w : Int) (i : Int) (u : Int) (j : Int) (z : Int → Int) (k : Nat) (t : Int) : f_M_setBack_x4 N a b w i u j z (k + 1) t = (if 1000 < t then (z t) else (if ((f_M_square t) * (f_M_lengthSquare N i j)) < (f_M_square (f_M_beside N i j a)) then (f_M_setBack_x4 N a b w i u j z k (t + 1)) else (z t))) := rfl
def f_M_setBack_n (N : Nat → Int → Int) (a : Int) (b : Int) (w : Int) (i : Int) (z : Int → Int) : Nat → Int → Int → Int
  | 0, _, _ => 0
  | k + 1, u, j => if j < (N 7 0) then (if (f_M_needOf N i 0 (N 4 i)) < ((N 3 j) - (N 3 i)) then (z u) else (if b = 1 then (if 0 < (f_M_beside N i j a) then (f_M_setBack_x4 N a b w i u j (fun t => f_M_setBack_n N a b w i z k t (j + 1)) 1003 u) else (f_M_setBack_x3 N a b w i u j (fun t => f_M_setBack_n N a b w i z k t (j + 1)) 1003 u)) else (if (f_M_beside N i j a) < 0 then (f_M_setBack_x2 N a b w i u j (fun t => f_M_setBack_n N a b w i z k t (j + 1)) 1003 u) else (f_M_setBack_x N a b w i u j (fun t => f_M_setBack_n N a b w i z k t (j + 1)) 1003 u)))) else (z u)
theorem f_M_setBack_n_s (N : Nat → Int → Int) (a : Int) (b : Int) (w : Int) (i : Int) (z : Int → Int) (k : Nat) (u j : Int) : f_M_setBack_n N a b w i z (k + 1) u j = (if j < (N 7 0) then (if (f_M_needOf N i 0 (N 4 i)) < ((N 3 j) - (N 3 i)) then (z u) else (if b = 1 then (if 0 < (f_M_beside N i j a) then (f_M_setBack_x4 N a b w i u j (fun t => f_M_setBack_n N a b w i z k t (j + 1)) 1003 u) else (f_M_setBack_x3 N a b w i u j (fun t => f_M_setBack_n N a b w i z k t (j + 1)) 1003 u)) else (if (f_M_beside N i j a) < 0 then (f_M_setBack_x2 N a b w i u j (fun t => f_M_setBack_n N a b w i z k t (j + 1)) 1003 u) else (f_M_setBack_x N a b w i u j (fun t => f_M_setBack_n N a b w i z k t (j + 1)) 1003 u)))) else (z u)) := rfl
def f_M_setBack_o (N : Nat → Int → Int) (a : Int) (b : Int) (z : Int → Int) : Nat → Int → Int → Int
  | 0, _, _ => 0
  | k + 1, w, i => if i < a then (f_M_setBack_n N a b w i (fun u => f_M_setBack_o N a b z k u (i + 1)) 61 w (a + 1)) else (z w)
theorem f_M_setBack_o_s (N : Nat → Int → Int) (a : Int) (b : Int) (z : Int → Int) (k : Nat) (w i : Int) : f_M_setBack_o N a b z (k + 1) w i = (if i < a then (f_M_setBack_n N a b w i (fun u => f_M_setBack_o N a b z k u (i + 1)) 61 w (a + 1)) else (z w)) := rfl
def f_M_setBack (N : Nat → Int → Int) (a b : Int) : Int := if (f_M_isStation N a) = 0 then (-1) else (if (f_M_within b 0 1) = 0 then (-1) else (f_M_setBack_o N a b (fun w => if 1000 < w then (-1) else (w)) 61 0 0))
set_option maxHeartbeats 4000000 in
set_option maxRecDepth 100000 in
theorem k_M_setBack (l : Launch) (dC : Nat → ClassId) (dI : Nat → Nat → Nat) (ad : Nat → Nat) (cI : ClassId) (N : Nat → Int → Int) (k0 k1 k2 k3 : Int) (hI : jN N) (a b : Int) (hb_a : zB (-2147483648) 2147483647 a) (hb_b : zB (-2147483648) 2147483647 b) : Met l y_M_setBack (Cond.code y_M_setBack c_M_setBack 10 (some .int) :: zT) { frames := 2, cells := 0, slots := 0, locals := 49 } (va_Pc ([.ref (ad 0), .int (zi a), .int (zi b)] : List Value) (zWM dC dI ad cI N k0 k1 k2 k3)) (zR (.int (zi (f_M_setBack N a b)))) 0 0 (fun _ => False) := by
  refine zh (cc := c_M_setBack) (C := R_M) (by decide) rfl rfl (Nat.le_of_ble_eq_true rfl) ?_
  intro p e s m below meth c ls hx hb hr hlocks hml hown hname hts hl hB
  have hw : ∀ w9 ∈ zT, w9.before ([.ref (ad 0), .int (zi a), .int (zi b)] : List Value).toArray s = true := fun w9 h => hts w9 (List.mem_cons_of_mem _ h)
  obtain ⟨hP, hK⟩ := hB
  obtain ⟨hn0, hn1⟩ := id (jN_s0 hI)
  obtain ⟨hz0, hz1⟩ := id (jN_s1 hI)
  obtain ⟨hl_a, hh_a⟩ := id hb_a
  obtain ⟨hl_b, hh_b⟩ := id hb_b
  generalize hq : f_M_setBack N a b = r
  unfold f_M_setBack at hq
  replace hl : lv_has ls 10 [(0, .ref (ad 0)), (1, .int (zi a)), (2, .int (zi b))] := hl
  refine lv_aload_n hx hb d_M_setBack_0 rfl (lv_at hl 0 rfl) ?_
  refine lv_iload_n hx hb d_M_setBack_1 rfl (lv_at hl 1 rfl) ?_
  refine zc_n (va_runV (As := [.int (zi a)]) (rest := []) ⟨hx, hb, hml, hown, hts⟩ (k_M_isStation l dC dI ad cI N k0 k1 k2 k3 hI a (zB.w hb_a (by decide) (by decide)) ) (zcV 1 hts m_273 m_3 m_271 m_272 m_392 rfl rfl q_M_isStation ⟨Nat.le_of_ble_eq_true rfl, Nat.le_of_ble_eq_true rfl⟩) (zpM0 hP hK [.int (zi a)]) rfl rfl hl.1 rfl (lv_room (Nat.le_of_ble_eq_true rfl)) d_M_setBack_2 ⟨Nat.zero_le _, Nat.zero_le _⟩) ?_
  refine zr_if_eq (tgt := 17) hx hb (zB.I (bb_M_isStation N a) (by decide) (by decide)) d_M_setBack_5 (by decide) (fun c_1 => ?_) (fun c_1 => ?_)
  · replace hq := (if_pos c_1).symm.trans hq
    have r_2 : zB 0 0 (f_M_isStation N a) := ⟨(Int.le_of_eq c_1.symm), (Int.le_of_eq c_1)⟩
    refine lv_iconst (v := zi (-1)) hx hb d_M_setBack_17 rfl ?_
    exact ze_i hx hb hr hlocks hq d_M_setBack_18
  · replace hq := (if_neg c_1).symm.trans hq
    have r_3 : zB 1 1 (f_M_isStation N a) := ⟨(by have := (bb_M_isStation N a).1; omega), (bb_M_isStation N a).2⟩
    have g_4 := gf_M_isStation hI c_1
    obtain ⟨g_4l, g_4h⟩ := id g_4.1
    have g_4n := g_4.2
    refine lv_iload_n hx hb d_M_setBack_8 rfl (lv_at hl 2 rfl) ?_
    refine lv_iconst (v := zi 0) hx hb d_M_setBack_9 rfl ?_
    refine lv_iconst (v := zi 1) hx hb d_M_setBack_10 rfl ?_
    refine zc_n (va_runS (As := [.int (zi b), .int (zi 0), .int (zi 1)]) (rest := []) ⟨hx, hb, hml, hown, hts⟩ (k_M_within l b 0 1 (zB.w hb_b (by decide) (by decide)) (zB.w (zb_c 0) (by decide) (by decide)) (zB.w (zb_c 1) (by decide) (by decide)) ) (zcS 3 hts m_252 m_3 m_250 m_251 rfl rfl q_M_within ⟨Nat.le_of_ble_eq_true rfl, Nat.le_of_ble_eq_true rfl⟩) (zp0 [.int (zi b), .int (zi 0), .int (zi 1)]) rfl rfl hl.1 rfl (lv_room (Nat.le_of_ble_eq_true rfl)) d_M_setBack_11 ⟨Nat.zero_le _, Nat.zero_le _⟩) ?_
    refine zr_if_ne (tgt := 19) hx hb (zB.I (bb_M_within b 0 1) (by decide) (by decide)) d_M_setBack_14 (by decide) (fun c_5 => ?_) (fun c_5 => ?_)
    · replace hq := (if_neg c_5).symm.trans hq
      have r_6 : zB 1 1 (f_M_within b 0 1) := ⟨(by have := (bb_M_within b 0 1).1; omega), (bb_M_within b 0 1).2⟩
      have g_7 := gf_M_within c_5
      obtain ⟨g_7l, g_7h⟩ := id g_7
      refine lv_iconst (v := zi 0) hx hb d_M_setBack_19 rfl ?_
      refine lv_istore_n (lv' := [(3, .int (zi 0)), (0, .ref (ad 0)), (1, .int (zi a)), (2, .int (zi b))]) hx hb d_M_setBack_20 rfl hl (by decide) rfl (fun ls hl => ?_)
      refine lv_iconst (v := zi 0) hx hb d_M_setBack_21 rfl ?_
      refine lv_istore (lv' := [(4, .int (zi 0)), (3, .int (zi 0)), (0, .ref (ad 0)), (1, .int (zi a)), (2, .int (zi b))]) hx hb d_M_setBack_22 hl (by decide) rfl (fun ls hl => ?_)
      have L_o : ∀ (z : Int → Int), (∀ (w : Int), zB 0 1001 w → ∀ (ls : Array Slot), z w = r → lv_has ls 10 [(0, .ref (ad 0)), (1, .int (zi a)), (2, .int (zi b)), (3, .int (zi w))] → W p l e { frames := 2, cells := 0, slots := 0, locals := 49 } s m ([.ref (ad 0), .int (zi a), .int (zi b)] : List Value).toArray below meth c s.heap [] 0 0 (MQ below (zR (.int (zi r))) ([.ref (ad 0), .int (zi a), .int (zi b)] : List Value).toArray s 0 0 (fun _ => False)) (F0 m 178 ls [])) → ∀ (k : Nat) (w i : Int) (ls : Array Slot), zB 0 1001 w → zB 0 59 i → 60 - i < (k : Int) → f_M_setBack_o N a b z k w i = r → lv_has ls 10 [(0, .ref (ad 0)), (1, .int (zi a)), (2, .int (zi b)), (3, .int (zi w)), (4, .int (zi i))] → W p l e { frames := 2, cells := 0, slots := 0, locals := 49 } s m ([.ref (ad 0), .int (zi a), .int (zi b)] : List Value).toArray below meth c s.heap [] 0 0 (MQ below (zR (.int (zi r))) ([.ref (ad 0), .int (zi a), .int (zi b)] : List Value).toArray s 0 0 (fun _ => False)) (F0 m 24 ls []) := by
        intro z hz k
        induction k with
        | zero =>
          intro w i ls hb_w hb_i  hk hq hl
          exact absurd hk (by have := hb_w.1; have := hb_w.2; have := hb_i.1; have := hb_i.2; omega)
        | succ k ih =>
          intro w i ls hb_w hb_i  hk hq hl
          obtain ⟨hl_w, hh_w⟩ := id hb_w
          obtain ⟨hl_i, hh_i⟩ := id hb_i
          replace hq := (f_M_setBack_o_s N a b z k w i).symm.trans hq
          refine lv_iload hx hb d_M_setBack_24 (lv_at hl 4 rfl) ?_
          refine lv_iload_n hx hb d_M_setBack_26 rfl (lv_at hl 1 rfl) ?_
          refine zr_icmp_ge (tgt := 178) hx hb (zB.I hb_i (by decide) (by decide)) (zB.I g_4.1 (by decide) (by decide)) d_M_setBack_27 (by decide) (fun c_8 => ?_) (fun c_8 => ?_)
          · replace hq := (if_neg c_8).symm.trans hq
            exact hz w (zB.w hb_w (by decide) (by decide)) ls hq (lv_sub hl [0, 1, 2, 3] rfl)
          · replace hq := (if_pos c_8).symm.trans hq
            refine lv_aload_n hx hb d_M_setBack_30 rfl (lv_at hl 0 rfl) ?_
            refine lv_iload hx hb d_M_setBack_31 (lv_at hl 4 rfl) ?_
            refine lv_iconst (v := zi 0) hx hb d_M_setBack_33 rfl ?_
            refine lv_aload_n hx hb d_M_setBack_34 rfl (lv_at hl 0 rfl) ?_
            refine va_get (D := (dC, dI)) (ci := 2) (v := .ref (ad 5)) (C := R_M) (T := T_M) (N := 17) hx hb hw i_M hown hK hP 0 rfl rfl 5 (by decide) (hw _ m_231) (fun _ h9 => h9) rfl d_M_setBack_35 ?_
            refine lv_iload hx hb d_M_setBack_38 (lv_at hl 4 rfl) ?_
            refine zr_iald hx hb hK hP 5 0 (cA := cI) (n := 60) (g := N 4) rfl rfl (i := i) (by omega) (by omega) (by decide) d_M_setBack_40 ?_
            refine zc_n (va_runV (As := [.int (zi i), .int (zi 0), .int (zi (N 4 i))]) (rest := []) ⟨hx, hb, hml, hown, hts⟩ (k_M_needOf l dC dI ad cI N k0 k1 k2 k3 hI i 0 (N 4 i) (zB.w hb_i (by decide) (by decide)) (zB.w (zb_c 0) (by decide) (by decide)) (zB.w (jN_a4 hI i) (by decide) (by decide)) (by omega)) (zcV 3 hts m_331 m_3 m_329 m_330 m_401 rfl rfl q_M_needOf ⟨Nat.le_of_ble_eq_true rfl, Nat.le_of_ble_eq_true rfl⟩) (zpM0 hP hK [.int (zi i), .int (zi 0), .int (zi (N 4 i))]) rfl rfl hl.1 rfl (lv_room (Nat.le_of_ble_eq_true rfl)) d_M_setBack_41 ⟨Nat.zero_le _, Nat.zero_le _⟩) ?_
            have b_9 : zB 0 82716 (f_M_needOf N i 0 (N 4 i)) := br_M_needOf N i 0 (N 4 i) hI (zB.w hb_i (by decide) (by decide)) (zB.w (zb_c 0) (by decide) (by decide)) (zB.w (jN_a4 hI i) (by decide) (by decide)) (by omega)
            refine lv_istore (lv' := [(5, .int (zi (f_M_needOf N i 0 (N 4 i)))), (0, .ref (ad 0)), (1, .int (zi a)), (2, .int (zi b)), (3, .int (zi w)), (4, .int (zi i))]) hx hb d_M_setBack_44 hl (by decide) rfl (fun ls hl => ?_)
            refine lv_iload_n hx hb d_M_setBack_46 rfl (lv_at hl 2 rfl) ?_
            refine lv_iconst (v := zi 1) hx hb d_M_setBack_47 rfl ?_
            have b_10 : zB 1 60 (a + 1) := zB.w (zb_add g_4.1 (zb_c 1)) (by decide) (by decide)
            refine zr_iadd hx hb d_M_setBack_48 ?_
            refine lv_istore (lv' := [(6, .int (zi (a + 1))), (5, .int (zi (f_M_needOf N i 0 (N 4 i)))), (0, .ref (ad 0)), (1, .int (zi a)), (2, .int (zi b)), (3, .int (zi w)), (4, .int (zi i))]) hx hb d_M_setBack_49 hl (by decide) rfl (fun ls hl => ?_)
            have L_n : ∀ (z : Int → Int), (∀ (u : Int), zB 0 1001 u → ∀ (ls : Array Slot), z u = r → lv_has ls 10 [(0, .ref (ad 0)), (1, .int (zi a)), (2, .int (zi b)), (3, .int (zi u)), (4, .int (zi i)), (5, .int (zi (f_M_needOf N i 0 (N 4 i))))] → W p l e { frames := 2, cells := 0, slots := 0, locals := 49 } s m ([.ref (ad 0), .int (zi a), .int (zi b)] : List Value).toArray below meth c s.heap [] 0 0 (MQ below (zR (.int (zi r))) ([.ref (ad 0), .int (zi a), .int (zi b)] : List Value).toArray s 0 0 (fun _ => False)) (F0 m 172 ls [])) → ∀ (k : Nat) (u j : Int) (ls : Array Slot), zB 0 1001 u → zB 1 60 j → 60 - j < (k : Int) → f_M_setBack_n N a b w i z k u j = r → lv_has ls 10 [(0, .ref (ad 0)), (1, .int (zi a)), (2, .int (zi b)), (3, .int (zi u)), (4, .int (zi i)), (5, .int (zi (f_M_needOf N i 0 (N 4 i)))), (6, .int (zi j))] → W p l e { frames := 2, cells := 0, slots := 0, locals := 49 } s m ([.ref (ad 0), .int (zi a), .int (zi b)] : List Value).toArray below meth c s.heap [] 0 0 (MQ below (zR (.int (zi r))) ([.ref (ad 0), .int (zi a), .int (zi b)] : List Value).toArray s 0 0 (fun _ => False)) (F0 m 51 ls []) := by
              intro z hz k
              induction k with
              | zero =>
                intro u j ls hb_u hb_j  hk hq hl
                exact absurd hk (by have := hb_u.1; have := hb_u.2; have := hb_j.1; have := hb_j.2; omega)
              | succ k ih =>
                intro u j ls hb_u hb_j  hk hq hl
                obtain ⟨hl_u, hh_u⟩ := id hb_u
                obtain ⟨hl_j, hh_j⟩ := id hb_j
                replace hq := (f_M_setBack_n_s N a b w i z k u j).symm.trans hq
                refine lv_iload hx hb d_M_setBack_51 (lv_at hl 6 rfl) ?_
                refine lv_aload_n hx hb d_M_setBack_53 rfl (lv_at hl 0 rfl) ?_
                refine va_get (D := (dC, dI)) (ci := 2) (v := .int (zi (N 7 0))) (C := R_M) (T := T_M) (N := 17) hx hb hw i_M hown hK hP 0 rfl rfl 0 (by decide) (hw _ m_226) (fun _ h9 => h9) rfl d_M_setBack_54 ?_
                refine zr_icmp_ge (tgt := 172) hx hb (zB.I hb_j (by decide) (by decide)) (zB.I (jN_s0 hI) (by decide) (by decide)) d_M_setBack_57 (by decide) (fun c_11 => ?_) (fun c_11 => ?_)
                · replace hq := (if_neg c_11).symm.trans hq
                  exact hz u (zB.w hb_u (by decide) (by decide)) ls hq (lv_sub hl [0, 1, 2, 3, 4, 5] rfl)
                · replace hq := (if_pos c_11).symm.trans hq
                  refine lv_aload_n hx hb d_M_setBack_60 rfl (lv_at hl 0 rfl) ?_
                  refine va_get (D := (dC, dI)) (ci := 2) (v := .ref (ad 4)) (C := R_M) (T := T_M) (N := 17) hx hb hw i_M hown hK hP 0 rfl rfl 4 (by decide) (hw _ m_230) (fun _ h9 => h9) rfl d_M_setBack_61 ?_
                  refine lv_iload hx hb d_M_setBack_64 (lv_at hl 6 rfl) ?_
                  refine zr_iald hx hb hK hP 4 0 (cA := cI) (n := 60) (g := N 3) rfl rfl (i := j) (by omega) (by omega) (by decide) d_M_setBack_66 ?_
                  refine lv_aload_n hx hb d_M_setBack_67 rfl (lv_at hl 0 rfl) ?_
                  refine va_get (D := (dC, dI)) (ci := 2) (v := .ref (ad 4)) (C := R_M) (T := T_M) (N := 17) hx hb hw i_M hown hK hP 0 rfl rfl 4 (by decide) (hw _ m_230) (fun _ h9 => h9) rfl d_M_setBack_68 ?_
                  refine lv_iload hx hb d_M_setBack_71 (lv_at hl 4 rfl) ?_
                  refine zr_iald hx hb hK hP 4 0 (cA := cI) (n := 60) (g := N 3) rfl rfl (i := i) (by omega) (by omega) (by decide) d_M_setBack_73 ?_
                  have b_12 : zB (-2545620) 2545620 ((N 3 j) - (N 3 i)) := zB.w (zb_sub (jN_a3 hI j) (jN_a3 hI i)) (by decide) (by decide)
                  refine zr_isub hx hb d_M_setBack_74 ?_
                  refine lv_iload hx hb d_M_setBack_75 (lv_at hl 5 rfl) ?_
                  refine zr_icmp_gt (tgt := 172) hx hb (zB.I b_12 (by decide) (by decide)) (zB.I b_9 (by decide) (by decide)) d_M_setBack_77 (by decide) (fun c_13 => ?_) (fun c_13 => ?_)
                  · replace hq := (if_pos c_13).symm.trans hq
                    exact hz u (zB.w hb_u (by decide) (by decide)) ls hq (lv_sub hl [0, 1, 2, 3, 4, 5] rfl)
                  · replace hq := (if_neg c_13).symm.trans hq
                    refine lv_aload_n hx hb d_M_setBack_80 rfl (lv_at hl 0 rfl) ?_
                    refine lv_iload hx hb d_M_setBack_81 (lv_at hl 4 rfl) ?_
                    refine lv_iload hx hb d_M_setBack_83 (lv_at hl 6 rfl) ?_
                    refine lv_iload_n hx hb d_M_setBack_85 rfl (lv_at hl 1 rfl) ?_
                    refine zc_n (va_runV (As := [.int (zi i), .int (zi j), .int (zi a)]) (rest := []) ⟨hx, hb, hml, hown, hts⟩ (k_M_beside l dC dI ad cI N k0 k1 k2 k3 hI i j a (zB.w hb_i (by decide) (by decide)) ⟨by omega, by omega⟩ (zB.w g_4.1 (by decide) (by decide)) ) (zcV 3 hts m_305 m_3 m_303 m_304 m_396 rfl rfl q_M_beside ⟨Nat.le_of_ble_eq_true rfl, Nat.le_of_ble_eq_true rfl⟩) (zpM0 hP hK [.int (zi i), .int (zi j), .int (zi a)]) rfl rfl hl.1 rfl (lv_room (Nat.le_of_ble_eq_true rfl)) d_M_setBack_86 ⟨Nat.zero_le _, Nat.zero_le _⟩) ?_
                    have b_14 : zB (-1800000000) 1800000000 (f_M_beside N i j a) := br_M_beside N i j a hI (zB.w hb_i (by decide) (by decide)) ⟨by omega, by omega⟩ (zB.w g_4.1 (by decide) (by decide)) 
                    refine lv_lstore (lv' := [(7, .long (zl (f_M_beside N i j a))), (0, .ref (ad 0)), (1, .int (zi a)), (2, .int (zi b)), (3, .int (zi u)), (4, .int (zi i)), (5, .int (zi (f_M_needOf N i 0 (N 4 i)))), (6, .int (zi j))]) hx hb d_M_setBack_89 hl (by decide) rfl (fun ls hl => ?_)
                    refine lv_iload_n hx hb d_M_setBack_91 rfl (lv_at hl 3 rfl) ?_
                    refine lv_iconst (v := zi 1) hx hb d_M_setBack_92 rfl ?_
                    refine zr_icmp_ne (tgt := 111) hx hb (zB.I g_7 (by decide) (by decide)) (zB.I (zb_c 1) (by decide) (by decide)) d_M_setBack_93 (by decide) (fun c_15 => ?_) (fun c_15 => ?_)
                    · replace hq := (if_neg c_15).symm.trans hq
                      refine lv_lload hx hb d_M_setBack_111 (lv_at hl 0 rfl) ?_
                      refine lv_lconst (v := zl 0) hx hb d_M_setBack_113 (by decide) ?_
                      refine zr_lcmp_ge (tgt := 122) hx hb (zB.L b_14 (by decide) (by decide)) (zB.L (zb_c 0) (by decide) (by decide)) d_M_setBack_114 d_M_setBack_115 (by decide) (fun c_16 => ?_) (fun c_16 => ?_)
                      · replace hq := (if_neg c_16).symm.trans hq
                        have r_17 : zB 0 1800000000 (f_M_beside N i j a) := ⟨(Int.not_lt.mp c_16), b_14.2⟩
                        refine lv_iconst (v := zi 0) hx hb d_M_setBack_122 rfl ?_
                        refine lv_istore (lv' := [(9, .int (zi 0)), (7, .long (zl (f_M_beside N i j a))), (0, .ref (ad 0)), (1, .int (zi a)), (2, .int (zi b)), (3, .int (zi u)), (4, .int (zi i)), (5, .int (zi (f_M_needOf N i 0 (N 4 i)))), (6, .int (zi j))]) hx hb d_M_setBack_123 hl (by decide) rfl (fun ls hl => ?_)
                        have L_x : ∀ (z : Int → Int), (∀ (t : Int), zB 0 1001 t → ∀ (ls : Array Slot), z t = r → lv_has ls 10 [(0, .ref (ad 0)), (1, .int (zi a)), (2, .int (zi b)), (3, .int (zi t)), (4, .int (zi i)), (5, .int (zi (f_M_needOf N i 0 (N 4 i)))), (6, .int (zi j)), (7, .long (zl (f_M_beside N i j a))), (9, .int (zi 0))] → W p l e { frames := 2, cells := 0, slots := 0, locals := 49 } s m ([.ref (ad 0), .int (zi a), .int (zi b)] : List Value).toArray below meth c s.heap [] 0 0 (MQ below (zR (.int (zi r))) ([.ref (ad 0), .int (zi a), .int (zi b)] : List Value).toArray s 0 0 (fun _ => False)) (F0 m 166 ls [])) → ∀ (k : Nat) (t : Int) (ls : Array Slot), zB 0 1001 t → 1002 - t < (k : Int) → f_M_setBack_x N a b w i u j z k t = r → lv_has ls 10 [(0, .ref (ad 0)), (1, .int (zi a)), (2, .int (zi b)), (3, .int (zi t)), (4, .int (zi i)), (5, .int (zi (f_M_needOf N i 0 (N 4 i)))), (6, .int (zi j)), (7, .long (zl (f_M_beside N i j a))), (9, .int (zi 0))] → W p l e { frames := 2, cells := 0, slots := 0, locals := 49 } s m ([.ref (ad 0), .int (zi a), .int (zi b)] : List Value).toArray below meth c s.heap [] 0 0 (MQ below (zR (.int (zi r))) ([.ref (ad 0), .int (zi a), .int (zi b)] : List Value).toArray s 0 0 (fun _ => False)) (F0 m 125 ls []) := by
                          intro z hz k
                          induction k with
                          | zero =>
                            intro t ls hb_t  hk hq hl
                            exact absurd hk (by have := hb_t.1; have := hb_t.2; omega)
                          | succ k ih =>
                            intro t ls hb_t  hk hq hl
                            obtain ⟨hl_t, hh_t⟩ := id hb_t
                            replace hq := (f_M_setBack_x_s N a b w i u j z k t).symm.trans hq
                            refine lv_iload hx hb d_M_setBack_125 (lv_at hl 8 rfl) ?_
                            refine zr_if_eq (tgt := 166) hx hb (zB.I (zb_c 0) (by decide) (by decide)) d_M_setBack_127 (by decide) (fun _ => ?_) (fun c => absurd (by decide : (0 : Int) = 0) c)
                            exact hz t (zB.w hb_t (by decide) (by decide)) ls hq (lv_sub hl [0, 1, 2, 3, 4, 5, 6, 7, 8] rfl)
                        refine L_x _ (fun t hb_t ls hq hl => ?_) 1003 u ls (zB.w hb_u (by decide) (by decide))  (by omega) hq (lv_sub hl [2, 3, 4, 5, 6, 7, 8, 1, 0] rfl)
                        obtain ⟨hl_t, hh_t⟩ := id hb_t
                        have b_18 : zB 2 61 (j + 1) := zB.w (zb_add hb_j (zb_c 1)) (by decide) (by decide)
                        refine lv_iinc (v := zi (j + 1)) (lv' := [(6, .int (zi (j + 1))), (0, .ref (ad 0)), (1, .int (zi a)), (2, .int (zi b)), (3, .int (zi t)), (4, .int (zi i)), (5, .int (zi (f_M_needOf N i 0 (N 4 i)))), (7, .long (zl (f_M_beside N i j a))), (9, .int (zi 0))]) hx hb d_M_setBack_166 hl (k := 6) rfl (zi_add _ _) (by decide) rfl (fun ls hl => ?_)
                        refine lv_goto (tgt := 51) hx hb d_M_setBack_169 (by decide) ?_
                        exact ih t (j + 1) ls (zB.w hb_t (by decide) (by decide)) ⟨by have h9 := b_18.1; have h8 := b_18.2; omega, by have h9 := b_18.1; have h8 := b_18.2; omega⟩  (by omega) hq (lv_sub hl [1, 2, 3, 4, 5, 6, 0] rfl)
                      · replace hq := (if_pos c_16).symm.trans hq
                        have r_19 : zB (-1800000000) (-1) (f_M_beside N i j a) := ⟨b_14.1, (Int.le_sub_one_of_lt c_16)⟩
                        refine lv_iconst (v := zi 1) hx hb d_M_setBack_118 rfl ?_
                        refine lv_goto (tgt := 123) hx hb d_M_setBack_119 (by decide) ?_
                        refine lv_istore (lv' := [(9, .int (zi 1)), (7, .long (zl (f_M_beside N i j a))), (0, .ref (ad 0)), (1, .int (zi a)), (2, .int (zi b)), (3, .int (zi u)), (4, .int (zi i)), (5, .int (zi (f_M_needOf N i 0 (N 4 i)))), (6, .int (zi j))]) hx hb d_M_setBack_123 hl (by decide) rfl (fun ls hl => ?_)
                        have L_x2 : ∀ (z : Int → Int), (∀ (t : Int), zB 0 1001 t → ∀ (ls : Array Slot), z t = r → lv_has ls 10 [(0, .ref (ad 0)), (1, .int (zi a)), (2, .int (zi b)), (3, .int (zi t)), (4, .int (zi i)), (5, .int (zi (f_M_needOf N i 0 (N 4 i)))), (6, .int (zi j)), (7, .long (zl (f_M_beside N i j a))), (9, .int (zi 1))] → W p l e { frames := 2, cells := 0, slots := 0, locals := 49 } s m ([.ref (ad 0), .int (zi a), .int (zi b)] : List Value).toArray below meth c s.heap [] 0 0 (MQ below (zR (.int (zi r))) ([.ref (ad 0), .int (zi a), .int (zi b)] : List Value).toArray s 0 0 (fun _ => False)) (F0 m 166 ls [])) → ∀ (k : Nat) (t : Int) (ls : Array Slot), zB 0 1001 t → 1002 - t < (k : Int) → f_M_setBack_x2 N a b w i u j z k t = r → lv_has ls 10 [(0, .ref (ad 0)), (1, .int (zi a)), (2, .int (zi b)), (3, .int (zi t)), (4, .int (zi i)), (5, .int (zi (f_M_needOf N i 0 (N 4 i)))), (6, .int (zi j)), (7, .long (zl (f_M_beside N i j a))), (9, .int (zi 1))] → W p l e { frames := 2, cells := 0, slots := 0, locals := 49 } s m ([.ref (ad 0), .int (zi a), .int (zi b)] : List Value).toArray below meth c s.heap [] 0 0 (MQ below (zR (.int (zi r))) ([.ref (ad 0), .int (zi a), .int (zi b)] : List Value).toArray s 0 0 (fun _ => False)) (F0 m 125 ls []) := by
                          intro z hz k
                          induction k with
                          | zero =>
                            intro t ls hb_t  hk hq hl
                            exact absurd hk (by have := hb_t.1; have := hb_t.2; omega)
                          | succ k ih =>
                            intro t ls hb_t  hk hq hl
                            obtain ⟨hl_t, hh_t⟩ := id hb_t
                            replace hq := (f_M_setBack_x2_s N a b w i u j z k t).symm.trans hq
                            refine lv_iload hx hb d_M_setBack_125 (lv_at hl 8 rfl) ?_
                            refine zr_if_eq (tgt := 166) hx hb (zB.I (zb_c 1) (by decide) (by decide)) d_M_setBack_127 (by decide) (fun c => absurd c (by decide : ¬ (1 : Int) = 0)) (fun _ => ?_)
                            refine lv_iload_n hx hb d_M_setBack_130 rfl (lv_at hl 3 rfl) ?_
                            refine lv_sipush (v := zi 1000) hx hb d_M_setBack_131 (by decide) ?_
                            refine zr_icmp_gt (tgt := 166) hx hb (zB.I hb_t (by decide) (by decide)) (zB.I (zb_c 1000) (by decide) (by decide)) d_M_setBack_134 (by decide) (fun c_20 => ?_) (fun c_20 => ?_)
                            · replace hq := (if_pos c_20).symm.trans hq
                              have r_21 : zB 1001 1001 t := ⟨(Int.add_one_le_of_lt c_20), hb_t.2⟩
                              exact hz t (zB.w r_21 (by decide) (by decide)) ls hq (lv_sub hl [0, 1, 2, 3, 4, 5, 6, 7, 8] rfl)
                            · replace hq := (if_neg c_20).symm.trans hq
                              have r_22 : zB 0 1000 t := ⟨hb_t.1, (Int.not_lt.mp c_20)⟩
                              refine lv_lload hx hb d_M_setBack_137 (lv_at hl 7 rfl) ?_
                              refine zc_n (va_runS (As := [.long (zl (f_M_beside N i j a))]) (rest := []) ⟨hx, hb, hml, hown, hts⟩ (k_M_square l (f_M_beside N i j a) (zB.w r_19 (by decide) (by decide)) ) (zcS 1 hts m_257 m_3 m_255 m_256 rfl rfl q_M_square ⟨Nat.le_of_ble_eq_true rfl, Nat.le_of_ble_eq_true rfl⟩) (zp0 [.long (zl (f_M_beside N i j a))]) rfl rfl hl.1 rfl (lv_room (Nat.le_of_ble_eq_true rfl)) d_M_setBack_139 ⟨Nat.zero_le _, Nat.zero_le _⟩) ?_
                              have b_23 : zB 0 3240000000000000000 (f_M_square (f_M_beside N i j a)) := zB.w (zb_sq (A := 1800000000) (zB.w r_19 (by decide) (by decide))) (by decide) (by decide)
                              refine lv_iload_n hx hb d_M_setBack_142 rfl (lv_at hl 3 rfl) ?_
                              refine zr_i2l hx hb (zB.I r_22 (by decide) (by decide)) d_M_setBack_143 ?_
                              refine zc_n (va_runS (As := [.long (zl t)]) (rest := [.long (zl (f_M_square (f_M_beside N i j a)))]) ⟨hx, hb, hml, hown, hts⟩ (k_M_square l t (zB.w r_22 (by decide) (by decide)) ) (zcS 1 hts m_257 m_3 m_255 m_256 rfl rfl q_M_square ⟨Nat.le_of_ble_eq_true rfl, Nat.le_of_ble_eq_true rfl⟩) (zp0 [.long (zl t)]) rfl rfl hl.1 rfl (lv_room (Nat.le_of_ble_eq_true rfl)) d_M_setBack_144 ⟨Nat.zero_le _, Nat.zero_le _⟩) ?_
                              have b_24 : zB 0 1000000 (f_M_square t) := zB.w (zb_sq (A := 1000) (zB.w r_22 (by decide) (by decide))) (by decide) (by decide)
                              refine lv_aload_n hx hb d_M_setBack_147 rfl (lv_at hl 0 rfl) ?_
                              refine lv_iload hx hb d_M_setBack_148 (lv_at hl 4 rfl) ?_
                              refine lv_iload hx hb d_M_setBack_150 (lv_at hl 6 rfl) ?_
                              refine zc_n (va_runV (As := [.int (zi i), .int (zi j)]) (rest := [.long (zl (f_M_square t)), .long (zl (f_M_square (f_M_beside N i j a)))]) ⟨hx, hb, hml, hown, hts⟩ (k_M_lengthSquare l dC dI ad cI N k0 k1 k2 k3 hI i j (zB.w hb_i (by decide) (by decide)) ⟨by omega, by omega⟩ ) (zcV 2 hts m_308 m_3 m_306 m_307 m_397 rfl rfl q_M_lengthSquare ⟨Nat.le_of_ble_eq_true rfl, Nat.le_of_ble_eq_true rfl⟩) (zpM0 hP hK [.int (zi i), .int (zi j)]) rfl rfl hl.1 rfl (lv_room (Nat.le_of_ble_eq_true rfl)) d_M_setBack_152 ⟨Nat.zero_le _, Nat.zero_le _⟩) ?_
                              have b_25 : zB 0 1800000000 (f_M_lengthSquare N i j) := br_M_lengthSquare N i j hI (zB.w hb_i (by decide) (by decide)) ⟨by omega, by omega⟩ 
                              have b_26 : zB 0 1800000000000000 ((f_M_square t) * (f_M_lengthSquare N i j)) := zB.w (zb_mulq b_24 b_25 (by decide) (by decide)) (by decide) (by decide)
                              refine zr_lmul hx hb d_M_setBack_155 ?_
                              refine zr_lcmp_le (tgt := 166) hx hb (zB.L b_23 (by decide) (by decide)) (zB.L b_26 (by decide) (by decide)) d_M_setBack_156 d_M_setBack_157 (by decide) (fun c_27 => ?_) (fun c_27 => ?_)
                              · replace hq := (if_neg c_27).symm.trans hq
                                exact hz t (zB.w r_22 (by decide) (by decide)) ls hq (lv_sub hl [0, 1, 2, 3, 4, 5, 6, 7, 8] rfl)
                              · replace hq := (if_pos c_27).symm.trans hq
                                have b_28 : zB 1 1001 (t + 1) := zB.w (zb_add r_22 (zb_c 1)) (by decide) (by decide)
                                refine lv_iinc (v := zi (t + 1)) (lv' := [(3, .int (zi (t + 1))), (0, .ref (ad 0)), (1, .int (zi a)), (2, .int (zi b)), (4, .int (zi i)), (5, .int (zi (f_M_needOf N i 0 (N 4 i)))), (6, .int (zi j)), (7, .long (zl (f_M_beside N i j a))), (9, .int (zi 1))]) hx hb d_M_setBack_160 hl (k := 3) rfl (zi_add _ _) (by decide) rfl (fun ls hl => ?_)
                                refine lv_goto (tgt := 125) hx hb d_M_setBack_163 (by decide) ?_
                                exact ih (t + 1) ls (zB.w b_28 (by decide) (by decide))  (by omega) hq (lv_sub hl [1, 2, 3, 0, 4, 5, 6, 7, 8] rfl)
                        refine L_x2 _ (fun t hb_t ls hq hl => ?_) 1003 u ls (zB.w hb_u (by decide) (by decide))  (by omega) hq (lv_sub hl [2, 3, 4, 5, 6, 7, 8, 1, 0] rfl)
                        obtain ⟨hl_t, hh_t⟩ := id hb_t
                        have b_29 : zB 2 61 (j + 1) := zB.w (zb_add hb_j (zb_c 1)) (by decide) (by decide)
                        refine lv_iinc (v := zi (j + 1)) (lv' := [(6, .int (zi (j + 1))), (0, .ref (ad 0)), (1, .int (zi a)), (2, .int (zi b)), (3, .int (zi t)), (4, .int (zi i)), (5, .int (zi (f_M_needOf N i 0 (N 4 i)))), (7, .long (zl (f_M_beside N i j a))), (9, .int (zi 1))]) hx hb d_M_setBack_166 hl (k := 6) rfl (zi_add _ _) (by decide) rfl (fun ls hl => ?_)
                        refine lv_goto (tgt := 51) hx hb d_M_setBack_169 (by decide) ?_
                        exact ih t (j + 1) ls (zB.w hb_t (by decide) (by decide)) ⟨by have h9 := b_29.1; have h8 := b_29.2; omega, by have h9 := b_29.1; have h8 := b_29.2; omega⟩  (by omega) hq (lv_sub hl [1, 2, 3, 4, 5, 6, 0] rfl)
                    · replace hq := (if_pos c_15).symm.trans hq
                      have r_30 : zB 1 1 b := ⟨(Int.le_of_eq c_15.symm), (Int.le_of_eq c_15)⟩
                      refine lv_lload hx hb d_M_setBack_96 (lv_at hl 0 rfl) ?_
                      refine lv_lconst (v := zl 0) hx hb d_M_setBack_98 (by decide) ?_
                      refine zr_lcmp_le (tgt := 107) hx hb (zB.L b_14 (by decide) (by decide)) (zB.L (zb_c 0) (by decide) (by decide)) d_M_setBack_99 d_M_setBack_100 (by decide) (fun c_31 => ?_) (fun c_31 => ?_)
                      · replace hq := (if_neg c_31).symm.trans hq
                        have r_32 : zB (-1800000000) 0 (f_M_beside N i j a) := ⟨b_14.1, (Int.not_lt.mp c_31)⟩
                        refine lv_iconst (v := zi 0) hx hb d_M_setBack_107 rfl ?_
                        refine lv_goto (tgt := 123) hx hb d_M_setBack_108 (by decide) ?_
                        refine lv_istore (lv' := [(9, .int (zi 0)), (7, .long (zl (f_M_beside N i j a))), (0, .ref (ad 0)), (1, .int (zi a)), (2, .int (zi b)), (3, .int (zi u)), (4, .int (zi i)), (5, .int (zi (f_M_needOf N i 0 (N 4 i)))), (6, .int (zi j))]) hx hb d_M_setBack_123 hl (by decide) rfl (fun ls hl => ?_)
                        have L_x3 : ∀ (z : Int → Int), (∀ (t : Int), zB 0 1001 t → ∀ (ls : Array Slot), z t = r → lv_has ls 10 [(0, .ref (ad 0)), (1, .int (zi a)), (2, .int (zi b)), (3, .int (zi t)), (4, .int (zi i)), (5, .int (zi (f_M_needOf N i 0 (N 4 i)))), (6, .int (zi j)), (7, .long (zl (f_M_beside N i j a))), (9, .int (zi 0))] → W p l e { frames := 2, cells := 0, slots := 0, locals := 49 } s m ([.ref (ad 0), .int (zi a), .int (zi b)] : List Value).toArray below meth c s.heap [] 0 0 (MQ below (zR (.int (zi r))) ([.ref (ad 0), .int (zi a), .int (zi b)] : List Value).toArray s 0 0 (fun _ => False)) (F0 m 166 ls [])) → ∀ (k : Nat) (t : Int) (ls : Array Slot), zB 0 1001 t → 1002 - t < (k : Int) → f_M_setBack_x3 N a b w i u j z k t = r → lv_has ls 10 [(0, .ref (ad 0)), (1, .int (zi a)), (2, .int (zi b)), (3, .int (zi t)), (4, .int (zi i)), (5, .int (zi (f_M_needOf N i 0 (N 4 i)))), (6, .int (zi j)), (7, .long (zl (f_M_beside N i j a))), (9, .int (zi 0))] → W p l e { frames := 2, cells := 0, slots := 0, locals := 49 } s m ([.ref (ad 0), .int (zi a), .int (zi b)] : List Value).toArray below meth c s.heap [] 0 0 (MQ below (zR (.int (zi r))) ([.ref (ad 0), .int (zi a), .int (zi b)] : List Value).toArray s 0 0 (fun _ => False)) (F0 m 125 ls []) := by
                          intro z hz k
                          induction k with
                          | zero =>
                            intro t ls hb_t  hk hq hl
                            exact absurd hk (by have := hb_t.1; have := hb_t.2; omega)
                          | succ k ih =>
                            intro t ls hb_t  hk hq hl
                            obtain ⟨hl_t, hh_t⟩ := id hb_t
                            replace hq := (f_M_setBack_x3_s N a b w i u j z k t).symm.trans hq
                            refine lv_iload hx hb d_M_setBack_125 (lv_at hl 8 rfl) ?_
                            refine zr_if_eq (tgt := 166) hx hb (zB.I (zb_c 0) (by decide) (by decide)) d_M_setBack_127 (by decide) (fun _ => ?_) (fun c => absurd (by decide : (0 : Int) = 0) c)
                            exact hz t (zB.w hb_t (by decide) (by decide)) ls hq (lv_sub hl [0, 1, 2, 3, 4, 5, 6, 7, 8] rfl)
                        refine L_x3 _ (fun t hb_t ls hq hl => ?_) 1003 u ls (zB.w hb_u (by decide) (by decide))  (by omega) hq (lv_sub hl [2, 3, 4, 5, 6, 7, 8, 1, 0] rfl)
                        obtain ⟨hl_t, hh_t⟩ := id hb_t
                        have b_33 : zB 2 61 (j + 1) := zB.w (zb_add hb_j (zb_c 1)) (by decide) (by decide)
                        refine lv_iinc (v := zi (j + 1)) (lv' := [(6, .int (zi (j + 1))), (0, .ref (ad 0)), (1, .int (zi a)), (2, .int (zi b)), (3, .int (zi t)), (4, .int (zi i)), (5, .int (zi (f_M_needOf N i 0 (N 4 i)))), (7, .long (zl (f_M_beside N i j a))), (9, .int (zi 0))]) hx hb d_M_setBack_166 hl (k := 6) rfl (zi_add _ _) (by decide) rfl (fun ls hl => ?_)
                        refine lv_goto (tgt := 51) hx hb d_M_setBack_169 (by decide) ?_
                        exact ih t (j + 1) ls (zB.w hb_t (by decide) (by decide)) ⟨by have h9 := b_33.1; have h8 := b_33.2; omega, by have h9 := b_33.1; have h8 := b_33.2; omega⟩  (by omega) hq (lv_sub hl [1, 2, 3, 4, 5, 6, 0] rfl)
                      · replace hq := (if_pos c_31).symm.trans hq
                        have r_34 : zB 1 1800000000 (f_M_beside N i j a) := ⟨(Int.add_one_le_of_lt c_31), b_14.2⟩
                        refine lv_iconst (v := zi 1) hx hb d_M_setBack_103 rfl ?_
                        refine lv_goto (tgt := 123) hx hb d_M_setBack_104 (by decide) ?_
                        refine lv_istore (lv' := [(9, .int (zi 1)), (7, .long (zl (f_M_beside N i j a))), (0, .ref (ad 0)), (1, .int (zi a)), (2, .int (zi b)), (3, .int (zi u)), (4, .int (zi i)), (5, .int (zi (f_M_needOf N i 0 (N 4 i)))), (6, .int (zi j))]) hx hb d_M_setBack_123 hl (by decide) rfl (fun ls hl => ?_)
                        have L_x4 : ∀ (z : Int → Int), (∀ (t : Int), zB 0 1001 t → ∀ (ls : Array Slot), z t = r → lv_has ls 10 [(0, .ref (ad 0)), (1, .int (zi a)), (2, .int (zi b)), (3, .int (zi t)), (4, .int (zi i)), (5, .int (zi (f_M_needOf N i 0 (N 4 i)))), (6, .int (zi j)), (7, .long (zl (f_M_beside N i j a))), (9, .int (zi 1))] → W p l e { frames := 2, cells := 0, slots := 0, locals := 49 } s m ([.ref (ad 0), .int (zi a), .int (zi b)] : List Value).toArray below meth c s.heap [] 0 0 (MQ below (zR (.int (zi r))) ([.ref (ad 0), .int (zi a), .int (zi b)] : List Value).toArray s 0 0 (fun _ => False)) (F0 m 166 ls [])) → ∀ (k : Nat) (t : Int) (ls : Array Slot), zB 0 1001 t → 1002 - t < (k : Int) → f_M_setBack_x4 N a b w i u j z k t = r → lv_has ls 10 [(0, .ref (ad 0)), (1, .int (zi a)), (2, .int (zi b)), (3, .int (zi t)), (4, .int (zi i)), (5, .int (zi (f_M_needOf N i 0 (N 4 i)))), (6, .int (zi j)), (7, .long (zl (f_M_beside N i j a))), (9, .int (zi 1))] → W p l e { frames := 2, cells := 0, slots := 0, locals := 49 } s m ([.ref (ad 0), .int (zi a), .int (zi b)] : List Value).toArray below meth c s.heap [] 0 0 (MQ below (zR (.int (zi r))) ([.ref (ad 0), .int (zi a), .int (zi b)] : List Value).toArray s 0 0 (fun _ => False)) (F0 m 125 ls []) := by
                          intro z hz k
                          induction k with
                          | zero =>
                            intro t ls hb_t  hk hq hl
                            exact absurd hk (by have := hb_t.1; have := hb_t.2; omega)
                          | succ k ih =>
                            intro t ls hb_t  hk hq hl
                            obtain ⟨hl_t, hh_t⟩ := id hb_t
                            replace hq := (f_M_setBack_x4_s N a b w i u j z k t).symm.trans hq
                            refine lv_iload hx hb d_M_setBack_125 (lv_at hl 8 rfl) ?_
                            refine zr_if_eq (tgt := 166) hx hb (zB.I (zb_c 1) (by decide) (by decide)) d_M_setBack_127 (by decide) (fun c => absurd c (by decide : ¬ (1 : Int) = 0)) (fun _ => ?_)
                            refine lv_iload_n hx hb d_M_setBack_130 rfl (lv_at hl 3 rfl) ?_
                            refine lv_sipush (v := zi 1000) hx hb d_M_setBack_131 (by decide) ?_
                            refine zr_icmp_gt (tgt := 166) hx hb (zB.I hb_t (by decide) (by decide)) (zB.I (zb_c 1000) (by decide) (by decide)) d_M_setBack_134 (by decide) (fun c_35 => ?_) (fun c_35 => ?_)
                            · replace hq := (if_pos c_35).symm.trans hq
                              have r_36 : zB 1001 1001 t := ⟨(Int.add_one_le_of_lt c_35), hb_t.2⟩
                              exact hz t (zB.w r_36 (by decide) (by decide)) ls hq (lv_sub hl [0, 1, 2, 3, 4, 5, 6, 7, 8] rfl)
                            · replace hq := (if_neg c_35).symm.trans hq
                              have r_37 : zB 0 1000 t := ⟨hb_t.1, (Int.not_lt.mp c_35)⟩
                              refine lv_lload hx hb d_M_setBack_137 (lv_at hl 7 rfl) ?_
                              refine zc_n (va_runS (As := [.long (zl (f_M_beside N i j a))]) (rest := []) ⟨hx, hb, hml, hown, hts⟩ (k_M_square l (f_M_beside N i j a) (zB.w r_34 (by decide) (by decide)) ) (zcS 1 hts m_257 m_3 m_255 m_256 rfl rfl q_M_square ⟨Nat.le_of_ble_eq_true rfl, Nat.le_of_ble_eq_true rfl⟩) (zp0 [.long (zl (f_M_beside N i j a))]) rfl rfl hl.1 rfl (lv_room (Nat.le_of_ble_eq_true rfl)) d_M_setBack_139 ⟨Nat.zero_le _, Nat.zero_le _⟩) ?_
                              have b_38 : zB 0 3240000000000000000 (f_M_square (f_M_beside N i j a)) := zB.w (zb_sq (A := 1800000000) (zB.w r_34 (by decide) (by decide))) (by decide) (by decide)
                              refine lv_iload_n hx hb d_M_setBack_142 rfl (lv_at hl 3 rfl) ?_
                              refine zr_i2l hx hb (zB.I r_37 (by decide) (by decide)) d_M_setBack_143 ?_
                              refine zc_n (va_runS (As := [.long (zl t)]) (rest := [.long (zl (f_M_square (f_M_beside N i j a)))]) ⟨hx, hb, hml, hown, hts⟩ (k_M_square l t (zB.w r_37 (by decide) (by decide)) ) (zcS 1 hts m_257 m_3 m_255 m_256 rfl rfl q_M_square ⟨Nat.le_of_ble_eq_true rfl, Nat.le_of_ble_eq_true rfl⟩) (zp0 [.long (zl t)]) rfl rfl hl.1 rfl (lv_room (Nat.le_of_ble_eq_true rfl)) d_M_setBack_144 ⟨Nat.zero_le _, Nat.zero_le _⟩) ?_
                              have b_39 : zB 0 1000000 (f_M_square t) := zB.w (zb_sq (A := 1000) (zB.w r_37 (by decide) (by decide))) (by decide) (by decide)
                              refine lv_aload_n hx hb d_M_setBack_147 rfl (lv_at hl 0 rfl) ?_
                              refine lv_iload hx hb d_M_setBack_148 (lv_at hl 4 rfl) ?_
                              refine lv_iload hx hb d_M_setBack_150 (lv_at hl 6 rfl) ?_
                              refine zc_n (va_runV (As := [.int (zi i), .int (zi j)]) (rest := [.long (zl (f_M_square t)), .long (zl (f_M_square (f_M_beside N i j a)))]) ⟨hx, hb, hml, hown, hts⟩ (k_M_lengthSquare l dC dI ad cI N k0 k1 k2 k3 hI i j (zB.w hb_i (by decide) (by decide)) ⟨by omega, by omega⟩ ) (zcV 2 hts m_308 m_3 m_306 m_307 m_397 rfl rfl q_M_lengthSquare ⟨Nat.le_of_ble_eq_true rfl, Nat.le_of_ble_eq_true rfl⟩) (zpM0 hP hK [.int (zi i), .int (zi j)]) rfl rfl hl.1 rfl (lv_room (Nat.le_of_ble_eq_true rfl)) d_M_setBack_152 ⟨Nat.zero_le _, Nat.zero_le _⟩) ?_
                              have b_40 : zB 0 1800000000 (f_M_lengthSquare N i j) := br_M_lengthSquare N i j hI (zB.w hb_i (by decide) (by decide)) ⟨by omega, by omega⟩ 
                              have b_41 : zB 0 1800000000000000 ((f_M_square t) * (f_M_lengthSquare N i j)) := zB.w (zb_mulq b_39 b_40 (by decide) (by decide)) (by decide) (by decide)
                              refine zr_lmul hx hb d_M_setBack_155 ?_
                              refine zr_lcmp_le (tgt := 166) hx hb (zB.L b_38 (by decide) (by decide)) (zB.L b_41 (by decide) (by decide)) d_M_setBack_156 d_M_setBack_157 (by decide) (fun c_42 => ?_) (fun c_42 => ?_)
                              · replace hq := (if_neg c_42).symm.trans hq
                                exact hz t (zB.w r_37 (by decide) (by decide)) ls hq (lv_sub hl [0, 1, 2, 3, 4, 5, 6, 7, 8] rfl)
                              · replace hq := (if_pos c_42).symm.trans hq
                                have b_43 : zB 1 1001 (t + 1) := zB.w (zb_add r_37 (zb_c 1)) (by decide) (by decide)
                                refine lv_iinc (v := zi (t + 1)) (lv' := [(3, .int (zi (t + 1))), (0, .ref (ad 0)), (1, .int (zi a)), (2, .int (zi b)), (4, .int (zi i)), (5, .int (zi (f_M_needOf N i 0 (N 4 i)))), (6, .int (zi j)), (7, .long (zl (f_M_beside N i j a))), (9, .int (zi 1))]) hx hb d_M_setBack_160 hl (k := 3) rfl (zi_add _ _) (by decide) rfl (fun ls hl => ?_)
                                refine lv_goto (tgt := 125) hx hb d_M_setBack_163 (by decide) ?_
                                exact ih (t + 1) ls (zB.w b_43 (by decide) (by decide))  (by omega) hq (lv_sub hl [1, 2, 3, 0, 4, 5, 6, 7, 8] rfl)
                        refine L_x4 _ (fun t hb_t ls hq hl => ?_) 1003 u ls (zB.w hb_u (by decide) (by decide))  (by omega) hq (lv_sub hl [2, 3, 4, 5, 6, 7, 8, 1, 0] rfl)
                        obtain ⟨hl_t, hh_t⟩ := id hb_t
                        have b_44 : zB 2 61 (j + 1) := zB.w (zb_add hb_j (zb_c 1)) (by decide) (by decide)
                        refine lv_iinc (v := zi (j + 1)) (lv' := [(6, .int (zi (j + 1))), (0, .ref (ad 0)), (1, .int (zi a)), (2, .int (zi b)), (3, .int (zi t)), (4, .int (zi i)), (5, .int (zi (f_M_needOf N i 0 (N 4 i)))), (7, .long (zl (f_M_beside N i j a))), (9, .int (zi 1))]) hx hb d_M_setBack_166 hl (k := 6) rfl (zi_add _ _) (by decide) rfl (fun ls hl => ?_)
                        refine lv_goto (tgt := 51) hx hb d_M_setBack_169 (by decide) ?_
                        exact ih t (j + 1) ls (zB.w hb_t (by decide) (by decide)) ⟨by have h9 := b_44.1; have h8 := b_44.2; omega, by have h9 := b_44.1; have h8 := b_44.2; omega⟩  (by omega) hq (lv_sub hl [1, 2, 3, 4, 5, 6, 0] rfl)
            refine L_n _ (fun u hb_u ls hq hl => ?_) 61 w (a + 1) ls (zB.w hb_w (by decide) (by decide)) (zB.w b_10 (by decide) (by decide))  (by omega) hq (lv_sub hl [2, 3, 4, 5, 6, 1, 0] rfl)
            obtain ⟨hl_u, hh_u⟩ := id hb_u
            have b_45 : zB 1 60 (i + 1) := zB.w (zb_add hb_i (zb_c 1)) (by decide) (by decide)
            refine lv_iinc (v := zi (i + 1)) (lv' := [(4, .int (zi (i + 1))), (0, .ref (ad 0)), (1, .int (zi a)), (2, .int (zi b)), (3, .int (zi u)), (5, .int (zi (f_M_needOf N i 0 (N 4 i))))]) hx hb d_M_setBack_172 hl (k := 4) rfl (zi_add _ _) (by decide) rfl (fun ls hl => ?_)
            refine lv_goto (tgt := 24) hx hb d_M_setBack_175 (by decide) ?_
            exact ih u (i + 1) ls (zB.w hb_u (by decide) (by decide)) ⟨by have h9 := b_45.1; have h8 := b_45.2; omega, by have h9 := b_45.1; have h8 := b_45.2; omega⟩  (by omega) hq (lv_sub hl [1, 2, 3, 4, 0] rfl)
      refine L_o _ (fun w hb_w ls hq hl => ?_) 61 0 0 ls (zB.w (zb_c 0) (by decide) (by decide)) (zB.w (zb_c 0) (by decide) (by decide))  (by omega) hq (lv_sub hl [2, 3, 4, 1, 0] rfl)
      obtain ⟨hl_w, hh_w⟩ := id hb_w
      refine lv_iload_n hx hb d_M_setBack_178 rfl (lv_at hl 3 rfl) ?_
      refine lv_sipush (v := zi 1000) hx hb d_M_setBack_179 (by decide) ?_
      refine zr_icmp_le (tgt := 189) hx hb (zB.I hb_w (by decide) (by decide)) (zB.I (zb_c 1000) (by decide) (by decide)) d_M_setBack_182 (by decide) (fun c_46 => ?_) (fun c_46 => ?_)
      · replace hq := (if_neg c_46).symm.trans hq
        have r_47 : zB 0 1000 w := ⟨hb_w.1, (Int.not_lt.mp c_46)⟩
        refine lv_iload_n hx hb d_M_setBack_189 rfl (lv_at hl 3 rfl) ?_
        exact ze_i hx hb hr hlocks hq d_M_setBack_190
      · replace hq := (if_pos c_46).symm.trans hq
        have r_48 : zB 1001 1001 w := ⟨(Int.add_one_le_of_lt c_46), hb_w.2⟩
        refine lv_iconst (v := zi (-1)) hx hb d_M_setBack_185 rfl ?_
        refine lv_goto (tgt := 190) hx hb d_M_setBack_186 (by decide) ?_
        exact ze_i hx hb hr hlocks hq d_M_setBack_190
    · replace hq := (if_pos c_5).symm.trans hq
      have r_49 : zB 0 0 (f_M_within b 0 1) := ⟨(Int.le_of_eq c_5.symm), (Int.le_of_eq c_5)⟩
      refine lv_iconst (v := zi (-1)) hx hb d_M_setBack_17 rfl ?_
      exact ze_i hx hb hr hlocks hq d_M_setBack_18
def f_M_allowed_l (N : Nat → Int → Int) (a : Int) (v : Int) (z : Int) : Nat → Int → Int
  | 0, _ => 0
  | k + 1, x => if 0 < x then (if (f_M_sightOf N a v) < (f_M_needOf N a v x) then (if (f_M_remaining N a v) < (f_M_needOf N a v x) then (x) else (f_M_allowed_l N a v z k (x + (-5)))) else (x)) else (z)
theorem f_M_allowed_l_s (N : Nat → Int → Int) (a : Int) (v : Int) (z : Int) (k : Nat) (x : Int) : f_M_allowed_l N a v z (k + 1) x = (if 0 < x then (if (f_M_sightOf N a v) < (f_M_needOf N a v x) then (if (f_M_remaining N a v) < (f_M_needOf N a v x) then (x) else (f_M_allowed_l N a v z k (x + (-5)))) else (x)) else (z)) := rfl
def f_M_allowed (N : Nat → Int → Int) (a v : Int) : Int := if (f_M_isStation N a) = 0 then (-1) else (f_M_allowed_l N a v (0) 136 130)
set_option maxHeartbeats 4000000 in
set_option maxRecDepth 100000 in
theorem k_M_allowed (l : Launch) (dC : Nat → ClassId) (dI : Nat → Nat → Nat) (ad : Nat → Nat) (cI : ClassId) (N : Nat → Int → Int) (k0 k1 k2 k3 : Int) (hI : jN N) (hj : zJ 8 ad) (hb_k0 : zB (-115000) 115000 k0) (hb_k1 : zB (-115000) 115000 k1) (hb_k2 : zB (-115000) 115000 k2) (hb_k3 : zB (-115000) 115000 k3) (a v : Int) (hb_a : zB (-2147483648) 2147483647 a) (hb_v : zB 0 1 v) : Met l y_M_allowed (Cond.code y_M_allowed c_M_allowed 6 (some .int) :: zT) { frames := 5, cells := 0, slots := 0, locals := 120 } (va_Pc ([.ref (ad 0), .int (zi a), .int (zi v)] : List Value) (zWM dC dI ad cI N k0 k1 k2 k3)) (zQ (some (.int (zi (f_M_allowed N a v)))) (fun H => ∃ k0 k1 k2 k3 : Int, zB (-115000) 115000 k0 ∧ zB (-115000) 115000 k1 ∧ zB (-115000) 115000 k2 ∧ zB (-115000) 115000 k3 ∧ va_P (dC, dI) classes (wM ad cI N k0 k1 k2 k3) H) (zAM ad)) 0 0 (zAM ad) := by
  refine zh (cc := c_M_allowed) (C := R_M) (by decide) rfl rfl (Nat.le_of_ble_eq_true rfl) ?_
  intro p e s m below meth c ls hx hb hr hlocks hml hown hname hts hl hB
  have hw : ∀ w9 ∈ zT, w9.before ([.ref (ad 0), .int (zi a), .int (zi v)] : List Value).toArray s = true := fun w9 h => hts w9 (List.mem_cons_of_mem _ h)
  obtain ⟨hP, hK⟩ := hB
  obtain ⟨hn0, hn1⟩ := id (jN_s0 hI)
  have hD := zDM hj cI
  have hS : va_S (zAM ad) s.heap s.heap [] := va_S.rf
  obtain ⟨hz0, hz1⟩ := id (jN_s1 hI)
  obtain ⟨hl_a, hh_a⟩ := id hb_a
  obtain ⟨hl_v, hh_v⟩ := id hb_v
  generalize hq : f_M_allowed N a v = r
  unfold f_M_allowed at hq
  replace hl : lv_has ls 6 [(0, .ref (ad 0)), (1, .int (zi a)), (2, .int (zi v))] := hl
  refine lv_aload_n hx hb d_M_allowed_0 rfl (lv_at hl 0 rfl) ?_
  refine lv_iload_n hx hb d_M_allowed_1 rfl (lv_at hl 1 rfl) ?_
  refine zc_n (va_runV (As := [.int (zi a)]) (rest := []) ⟨hx, hb, hml, hown, hts⟩ (k_M_isStation l dC dI ad cI N k0 k1 k2 k3 hI a (zB.w hb_a (by decide) (by decide)) ) (zcV 1 hts m_273 m_3 m_271 m_272 m_392 rfl rfl q_M_isStation ⟨Nat.le_of_ble_eq_true rfl, Nat.le_of_ble_eq_true rfl⟩) (zpM0 hP hK [.int (zi a)]) rfl rfl hl.1 rfl (lv_room (Nat.le_of_ble_eq_true rfl)) d_M_allowed_2 ⟨Nat.zero_le _, Nat.zero_le _⟩) ?_
  refine zr_if_ne (tgt := 10) hx hb (zB.I (bb_M_isStation N a) (by decide) (by decide)) d_M_allowed_5 (by decide) (fun c_1 => ?_) (fun c_1 => ?_)
  · replace hq := (if_neg c_1).symm.trans hq
    have r_2 : zB 1 1 (f_M_isStation N a) := ⟨(by have := (bb_M_isStation N a).1; omega), (bb_M_isStation N a).2⟩
    have g_3 := gf_M_isStation hI c_1
    obtain ⟨g_3l, g_3h⟩ := id g_3.1
    have g_3n := g_3.2
    refine lv_aload_n hx hb d_M_allowed_10 rfl (lv_at hl 0 rfl) ?_
    refine lv_iload_n hx hb d_M_allowed_11 rfl (lv_at hl 1 rfl) ?_
    refine lv_iload_n hx hb d_M_allowed_12 rfl (lv_at hl 2 rfl) ?_
    refine zc_w (va_runV (As := [.int (zi a), .int (zi v)]) (rest := []) ⟨hx, hb, hml, hown, hts⟩ (k_M_sightOf l dC dI ad cI N k0 k1 k2 k3 hI hj (zB.w hb_k0 (by decide) (by decide)) (zB.w hb_k1 (by decide) (by decide)) (zB.w hb_k2 (by decide) (by decide)) (zB.w hb_k3 (by decide) (by decide)) a v (zB.w g_3.1 (by decide) (by decide)) (zB.w hb_v (by decide) (by decide)) ) (zcV 2 hts m_324 m_3 m_322 m_323 m_400 rfl rfl q_M_sightOf ⟨Nat.le_of_ble_eq_true rfl, Nat.le_of_ble_eq_true rfl⟩) (zpM0 hP hK [.int (zi a), .int (zi v)]) rfl rfl hl.1 rfl (lv_room (Nat.le_of_ble_eq_true rfl)) d_M_allowed_13 ⟨Nat.zero_le _, Nat.zero_le _⟩) hS (fun q _ h => h) (fun q h => h) (fun H locs hP hz1 hk1 hS => ?_)
    clear hz1 hk1
    obtain ⟨k0_e_4, k1_e_4, k2_e_4, k3_e_4, hk0_e_4, hk1_e_4, hk2_e_4, hk3_e_4, hP⟩ := hP
    have b_5 : zB (-2545620) 2545620 (f_M_sightOf N a v) := br_M_sightOf N a v hI (zB.w g_3.1 (by decide) (by decide)) (zB.w hb_v (by decide) (by decide)) 
    refine lv_istore_n (lv' := [(3, .int (zi (f_M_sightOf N a v))), (0, .ref (ad 0)), (1, .int (zi a)), (2, .int (zi v))]) hx hb d_M_allowed_16 rfl hl (by decide) rfl (fun ls hl => ?_)
    refine lv_sipush (v := zi 130) hx hb d_M_allowed_17 (by decide) ?_
    refine lv_istore (lv' := [(4, .int (zi 130)), (3, .int (zi (f_M_sightOf N a v))), (0, .ref (ad 0)), (1, .int (zi a)), (2, .int (zi v))]) hx hb d_M_allowed_20 hl (by decide) rfl (fun ls hl => ?_)
    have L_l : ∀ (z : Int), (∀ (ls : Array Slot) (H : Heap) (locs : List Loc) (k0 k1 k2 k3 : Int), zB (-115000) 115000 k0 → zB (-115000) 115000 k1 → zB (-115000) 115000 k2 → zB (-115000) 115000 k3 → va_P (dC, dI) classes (wM ad cI N k0 k1 k2 k3) H → va_S (zAM ad) s.heap H locs → z = r → lv_has ls 6 [(0, .ref (ad 0)), (1, .int (zi a)), (2, .int (zi v)), (3, .int (zi (f_M_sightOf N a v)))] → W p l e { frames := 5, cells := 0, slots := 0, locals := 120 } s m ([.ref (ad 0), .int (zi a), .int (zi v)] : List Value).toArray below meth c H locs 0 0 (MQ below (zQ (some (.int (zi r))) (fun H => ∃ k0 k1 k2 k3 : Int, zB (-115000) 115000 k0 ∧ zB (-115000) 115000 k1 ∧ zB (-115000) 115000 k2 ∧ zB (-115000) 115000 k3 ∧ va_P (dC, dI) classes (wM ad cI N k0 k1 k2 k3) H) (zAM ad)) ([.ref (ad 0), .int (zi a), .int (zi v)] : List Value).toArray s 0 0 (zAM ad)) (F0 m 63 ls [])) → ∀ (k : Nat) (x : Int) (ls : Array Slot) (H : Heap) (locs : List Loc) (k0 k1 k2 k3 : Int), zB (-115000) 115000 k0 → zB (-115000) 115000 k1 → zB (-115000) 115000 k2 → zB (-115000) 115000 k3 → va_P (dC, dI) classes (wM ad cI N k0 k1 k2 k3) H → va_S (zAM ad) s.heap H locs → zB (-4) 130 x → x + 5 < (k : Int) → f_M_allowed_l N a v z k x = r → lv_has ls 6 [(0, .ref (ad 0)), (1, .int (zi a)), (2, .int (zi v)), (3, .int (zi (f_M_sightOf N a v))), (4, .int (zi x))] → W p l e { frames := 5, cells := 0, slots := 0, locals := 120 } s m ([.ref (ad 0), .int (zi a), .int (zi v)] : List Value).toArray below meth c H locs 0 0 (MQ below (zQ (some (.int (zi r))) (fun H => ∃ k0 k1 k2 k3 : Int, zB (-115000) 115000 k0 ∧ zB (-115000) 115000 k1 ∧ zB (-115000) 115000 k2 ∧ zB (-115000) 115000 k3 ∧ va_P (dC, dI) classes (wM ad cI N k0 k1 k2 k3) H) (zAM ad)) ([.ref (ad 0), .int (zi a), .int (zi v)] : List Value).toArray s 0 0 (zAM ad)) (F0 m 22 ls []) := by
      intro z hz k
      induction k with
      | zero =>
        intro x ls H locs k0 k1 k2 k3 hk0 hk1 hk2 hk3 hP hS hb_x  hk hq hl
        exact absurd hk (by have := hb_x.1; have := hb_x.2; omega)
      | succ k ih =>
        intro x ls H locs k0 k1 k2 k3 hk0 hk1 hk2 hk3 hP hS hb_x  hk hq hl
        obtain ⟨hl_x, hh_x⟩ := id hb_x
        replace hq := (f_M_allowed_l_s N a v z k x).symm.trans hq
        refine lv_iload hx hb d_M_allowed_22 (lv_at hl 4 rfl) ?_
        refine zr_if_le (tgt := 63) hx hb (zB.I hb_x (by decide) (by decide)) d_M_allowed_24 (by decide) (fun c_6 => ?_) (fun c_6 => ?_)
        · replace hq := (if_neg c_6).symm.trans hq
          have r_7 : zB (-4) 0 x := ⟨hb_x.1, (Int.not_lt.mp c_6)⟩
          exact hz ls _ _ k0 k1 k2 k3 (zB.w hk0 (by decide) (by decide)) (zB.w hk1 (by decide) (by decide)) (zB.w hk2 (by decide) (by decide)) (zB.w hk3 (by decide) (by decide)) hP hS hq (lv_sub hl [0, 1, 2, 3] rfl)
        · replace hq := (if_pos c_6).symm.trans hq
          have r_8 : zB 1 130 x := ⟨(Int.add_one_le_of_lt c_6), hb_x.2⟩
          refine lv_aload_n hx hb d_M_allowed_27 rfl (lv_at hl 0 rfl) ?_
          refine lv_iload_n hx hb d_M_allowed_28 rfl (lv_at hl 1 rfl) ?_
          refine lv_iload_n hx hb d_M_allowed_29 rfl (lv_at hl 2 rfl) ?_
          refine lv_iload hx hb d_M_allowed_30 (lv_at hl 4 rfl) ?_
          refine zc_n (va_runV (As := [.int (zi a), .int (zi v), .int (zi x)]) (rest := []) ⟨hx, hb, hml, hown, hts⟩ (k_M_needOf l dC dI ad cI N k0 k1 k2 k3 hI a v x (zB.w g_3.1 (by decide) (by decide)) (zB.w hb_v (by decide) (by decide)) (zB.w r_8 (by decide) (by decide)) (by omega)) (zcV 3 hts m_331 m_3 m_329 m_330 m_401 rfl rfl q_M_needOf ⟨Nat.le_of_ble_eq_true rfl, Nat.le_of_ble_eq_true rfl⟩) (zpM0 hP hK [.int (zi a), .int (zi v), .int (zi x)]) rfl rfl hl.1 rfl (lv_room (Nat.le_of_ble_eq_true rfl)) d_M_allowed_32 ⟨Nat.zero_le _, Nat.zero_le _⟩) ?_
          have b_9 : zB 0 82716 (f_M_needOf N a v x) := br_M_needOf N a v x hI (zB.w g_3.1 (by decide) (by decide)) (zB.w hb_v (by decide) (by decide)) (zB.w r_8 (by decide) (by decide)) (by omega)
          refine lv_istore (lv' := [(5, .int (zi (f_M_needOf N a v x))), (0, .ref (ad 0)), (1, .int (zi a)), (2, .int (zi v)), (3, .int (zi (f_M_sightOf N a v))), (4, .int (zi x))]) hx hb d_M_allowed_35 hl (by decide) rfl (fun ls hl => ?_)
          refine lv_iload hx hb d_M_allowed_37 (lv_at hl 0 rfl) ?_
          refine lv_iload_n hx hb d_M_allowed_39 rfl (lv_at hl 4 rfl) ?_
          refine zr_icmp_le (tgt := 54) hx hb (zB.I b_9 (by decide) (by decide)) (zB.I b_5 (by decide) (by decide)) d_M_allowed_40 (by decide) (fun c_10 => ?_) (fun c_10 => ?_)
          · replace hq := (if_neg c_10).symm.trans hq
            refine lv_iload hx hb d_M_allowed_54 (lv_at hl 5 rfl) ?_
            exact zw_i hx hb hr hlocks hq ⟨k0, k1, k2, k3, zB.w hk0 (by decide) (by decide), zB.w hk1 (by decide) (by decide), zB.w hk2 (by decide) (by decide), zB.w hk3 (by decide) (by decide), hP⟩ hS d_M_allowed_56
          · replace hq := (if_pos c_10).symm.trans hq
            refine lv_aload_n hx hb d_M_allowed_43 rfl (lv_at hl 1 rfl) ?_
            refine lv_iload_n hx hb d_M_allowed_44 rfl (lv_at hl 2 rfl) ?_
            refine lv_iload_n hx hb d_M_allowed_45 rfl (lv_at hl 3 rfl) ?_
            refine zc_n (va_runV (As := [.int (zi a), .int (zi v)]) (rest := []) ⟨hx, hb, hml, hown, hts⟩ (k_M_remaining l dC dI ad cI N k0 k1 k2 k3 hI a v (zB.w g_3.1 (by decide) (by decide)) (zB.w hb_v (by decide) (by decide)) (by omega)) (zcV 2 hts m_345 m_3 m_343 m_344 m_403 rfl rfl q_M_remaining ⟨Nat.le_of_ble_eq_true rfl, Nat.le_of_ble_eq_true rfl⟩) (zpM0 hP hK [.int (zi a), .int (zi v)]) rfl rfl hl.1 rfl (lv_room (Nat.le_of_ble_eq_true rfl)) d_M_allowed_46 ⟨Nat.zero_le _, Nat.zero_le _⟩) ?_
            have b_11 : zB (-2545620) 2545620 (f_M_remaining N a v) := br_M_remaining N a v hI (zB.w g_3.1 (by decide) (by decide)) (zB.w hb_v (by decide) (by decide)) (by omega)
            refine lv_iload hx hb d_M_allowed_49 (lv_at hl 0 rfl) ?_
            refine zr_icmp_ge (tgt := 57) hx hb (zB.I b_11 (by decide) (by decide)) (zB.I b_9 (by decide) (by decide)) d_M_allowed_51 (by decide) (fun c_12 => ?_) (fun c_12 => ?_)
            · replace hq := (if_neg c_12).symm.trans hq
              have b_13 : zB (-4) 125 (x + (-5)) := zB.w (zb_add r_8 (zb_c (-5))) (by decide) (by decide)
              refine lv_iinc (v := zi (x + (-5))) (lv' := [(4, .int (zi (x + (-5)))), (5, .int (zi (f_M_needOf N a v x))), (0, .ref (ad 0)), (1, .int (zi a)), (2, .int (zi v)), (3, .int (zi (f_M_sightOf N a v)))]) hx hb d_M_allowed_57 hl (k := 5) rfl (zi_add _ _) (by decide) rfl (fun ls hl => ?_)
              refine lv_goto (tgt := 22) hx hb d_M_allowed_60 (by decide) ?_
              exact ih (x + (-5)) ls _ _ k0 k1 k2 k3 (zB.w hk0 (by decide) (by decide)) (zB.w hk1 (by decide) (by decide)) (zB.w hk2 (by decide) (by decide)) (zB.w hk3 (by decide) (by decide)) hP hS (zB.w b_13 (by decide) (by decide))  (by omega) hq (lv_sub hl [2, 3, 4, 5, 0] rfl)
            · replace hq := (if_pos c_12).symm.trans hq
              refine lv_iload hx hb d_M_allowed_54 (lv_at hl 5 rfl) ?_
              exact zw_i hx hb hr hlocks hq ⟨k0, k1, k2, k3, zB.w hk0 (by decide) (by decide), zB.w hk1 (by decide) (by decide), zB.w hk2 (by decide) (by decide), zB.w hk3 (by decide) (by decide), hP⟩ hS d_M_allowed_56
    refine L_l _ (fun ls H locs k0 k1 k2 k3 hk0 hk1 hk2 hk3 hP hS hq hl => ?_) 136 130 ls _ _ k0_e_4 k1_e_4 k2_e_4 k3_e_4 (zB.w hk0_e_4 (by decide) (by decide)) (zB.w hk1_e_4 (by decide) (by decide)) (zB.w hk2_e_4 (by decide) (by decide)) (zB.w hk3_e_4 (by decide) (by decide)) hP hS (zB.w (zb_c 130) (by decide) (by decide))  (by omega) hq (lv_sub hl [2, 3, 4, 1, 0] rfl)
    refine lv_iconst (v := zi 0) hx hb d_M_allowed_63 rfl ?_
    exact zw_i hx hb hr hlocks hq ⟨k0, k1, k2, k3, zB.w hk0 (by decide) (by decide), zB.w hk1 (by decide) (by decide), zB.w hk2 (by decide) (by decide), zB.w hk3 (by decide) (by decide), hP⟩ hS d_M_allowed_64
  · replace hq := (if_pos c_1).symm.trans hq
    have r_14 : zB 0 0 (f_M_isStation N a) := ⟨(Int.le_of_eq c_1.symm), (Int.le_of_eq c_1)⟩
    refine lv_iconst (v := zi (-1)) hx hb d_M_allowed_8 rfl ?_
    exact zw_i hx hb hr hlocks hq ⟨k0, k1, k2, k3, zB.w hb_k0 (by decide) (by decide), zB.w hb_k1 (by decide) (by decide), zB.w hb_k2 (by decide) (by decide), zB.w hb_k3 (by decide) (by decide), hP⟩ hS d_M_allowed_9
def f_M_overtake_l (N : Nat → Int → Int) (a : Int) (z : Int → Int) : Nat → Int → Int → Int → Int
  | 0, _, _, _ => 0
  | k + 1, w, t, i => if i < (N 7 0) then (if (f_M_sightOf N i 0) < a then (if w < 0 then (f_M_overtake_l N a z k 0 (i + 1) (i + 1)) else (f_M_overtake_l N a z k w (i + 1) (i + 1))) else (if w < ((N 3 i) - (N 3 t)) then (f_M_overtake_l N a z k ((N 3 i) - (N 3 t)) t (i + 1)) else (f_M_overtake_l N a z k w t (i + 1)))) else (z w)
theorem f_M_overtake_l_s (N : Nat → Int → Int) (a : Int) (z : Int → Int) (k : Nat) (w t i : Int) : f_M_overtake_l N a z (k + 1) w t i = (if i < (N 7 0) then (if (f_M_sightOf N i 0) < a then (if w < 0 then (f_M_overtake_l N a z k 0 (i + 1) (i + 1)) else (f_M_overtake_l N a z k w (i + 1) (i + 1))) else (if w < ((N 3 i) - (N 3 t)) then (f_M_overtake_l N a z k ((N 3 i) - (N 3 t)) t (i + 1)) else (f_M_overtake_l N a z k w t (i + 1)))) else (z w)) := rfl
def f_M_overtake (N : Nat → Int → Int) (a : Int) : Int := if (f_M_within a 1 1000000) = 0 then (-1) else (f_M_overtake_l N a (fun w => w) 61 0 0 0)
set_option maxHeartbeats 4000000 in
set_option maxRecDepth 100000 in
theorem k_M_overtake (l : Launch) (dC : Nat → ClassId) (dI : Nat → Nat → Nat) (ad : Nat → Nat) (cI : ClassId) (N : Nat → Int → Int) (k0 k1 k2 k3 : Int) (hI : jN N) (hj : zJ 8 ad) (hb_k0 : zB (-115000) 115000 k0) (hb_k1 : zB (-115000) 115000 k1) (hb_k2 : zB (-115000) 115000 k2) (hb_k3 : zB (-115000) 115000 k3) (a : Int) (hb_a : zB (-2147483648) 2147483647 a) : Met l y_M_overtake (Cond.code y_M_overtake c_M_overtake 7 (some .int) :: zT) { frames := 5, cells := 0, slots := 0, locals := 120 } (va_Pc ([.ref (ad 0), .int (zi a)] : List Value) (zWM dC dI ad cI N k0 k1 k2 k3)) (zQ (some (.int (zi (f_M_overtake N a)))) (fun H => ∃ k0 k1 k2 k3 : Int, zB (-115000) 115000 k0 ∧ zB (-115000) 115000 k1 ∧ zB (-115000) 115000 k2 ∧ zB (-115000) 115000 k3 ∧ va_P (dC, dI) classes (wM ad cI N k0 k1 k2 k3) H) (zAM ad)) 0 0 (zAM ad) := by
  refine zh (cc := c_M_overtake) (C := R_M) (by decide) rfl rfl (Nat.le_of_ble_eq_true rfl) ?_
  intro p e s m below meth c ls hx hb hr hlocks hml hown hname hts hl hB
  have hw : ∀ w9 ∈ zT, w9.before ([.ref (ad 0), .int (zi a)] : List Value).toArray s = true := fun w9 h => hts w9 (List.mem_cons_of_mem _ h)
  obtain ⟨hP, hK⟩ := hB
  obtain ⟨hn0, hn1⟩ := id (jN_s0 hI)
  have hD := zDM hj cI
  have hS : va_S (zAM ad) s.heap s.heap [] := va_S.rf
  obtain ⟨hz0, hz1⟩ := id (jN_s1 hI)
  obtain ⟨hl_a, hh_a⟩ := id hb_a
  generalize hq : f_M_overtake N a = r
  unfold f_M_overtake at hq
  replace hl : lv_has ls 7 [(0, .ref (ad 0)), (1, .int (zi a))] := hl
  refine lv_iload_n hx hb d_M_overtake_0 rfl (lv_at hl 1 rfl) ?_
  refine lv_iconst (v := zi 1) hx hb d_M_overtake_1 rfl ?_
  refine lv_ldc (v := zi 1000000) hx hb hown (hw _ m_358) d_M_overtake_2 ?_
  refine zc_n (va_runS (As := [.int (zi a), .int (zi 1), .int (zi 1000000)]) (rest := []) ⟨hx, hb, hml, hown, hts⟩ (k_M_within l a 1 1000000 (zB.w hb_a (by decide) (by decide)) (zB.w (zb_c 1) (by decide) (by decide)) (zB.w (zb_c 1000000) (by decide) (by decide)) ) (zcS 3 hts m_252 m_3 m_250 m_251 rfl rfl q_M_within ⟨Nat.le_of_ble_eq_true rfl, Nat.le_of_ble_eq_true rfl⟩) (zp0 [.int (zi a), .int (zi 1), .int (zi 1000000)]) rfl rfl hl.1 rfl (lv_room (Nat.le_of_ble_eq_true rfl)) d_M_overtake_4 ⟨Nat.zero_le _, Nat.zero_le _⟩) ?_
  refine zr_if_ne (tgt := 12) hx hb (zB.I (bb_M_within a 1 1000000) (by decide) (by decide)) d_M_overtake_7 (by decide) (fun c_1 => ?_) (fun c_1 => ?_)
  · replace hq := (if_neg c_1).symm.trans hq
    have r_2 : zB 1 1 (f_M_within a 1 1000000) := ⟨(by have := (bb_M_within a 1 1000000).1; omega), (bb_M_within a 1 1000000).2⟩
    have g_3 := gf_M_within c_1
    obtain ⟨g_3l, g_3h⟩ := id g_3
    refine lv_iconst (v := zi 0) hx hb d_M_overtake_12 rfl ?_
    refine lv_istore_n (lv' := [(2, .int (zi 0)), (0, .ref (ad 0)), (1, .int (zi a))]) hx hb d_M_overtake_13 rfl hl (by decide) rfl (fun ls hl => ?_)
    refine lv_iconst (v := zi 0) hx hb d_M_overtake_14 rfl ?_
    refine lv_istore_n (lv' := [(3, .int (zi 0)), (2, .int (zi 0)), (0, .ref (ad 0)), (1, .int (zi a))]) hx hb d_M_overtake_15 rfl hl (by decide) rfl (fun ls hl => ?_)
    refine lv_iconst (v := zi 0) hx hb d_M_overtake_16 rfl ?_
    refine lv_istore (lv' := [(4, .int (zi 0)), (3, .int (zi 0)), (2, .int (zi 0)), (0, .ref (ad 0)), (1, .int (zi a))]) hx hb d_M_overtake_17 hl (by decide) rfl (fun ls hl => ?_)
    have L_l : ∀ (z : Int → Int), (∀ (w : Int), zB 0 2545620 w → ∀ (ls : Array Slot) (H : Heap) (locs : List Loc) (k0 k1 k2 k3 : Int), zB (-115000) 115000 k0 → zB (-115000) 115000 k1 → zB (-115000) 115000 k2 → zB (-115000) 115000 k3 → va_P (dC, dI) classes (wM ad cI N k0 k1 k2 k3) H → va_S (zAM ad) s.heap H locs → z w = r → lv_has ls 7 [(0, .ref (ad 0)), (1, .int (zi a)), (2, .int (zi w))] → W p l e { frames := 5, cells := 0, slots := 0, locals := 120 } s m ([.ref (ad 0), .int (zi a)] : List Value).toArray below meth c H locs 0 0 (MQ below (zQ (some (.int (zi r))) (fun H => ∃ k0 k1 k2 k3 : Int, zB (-115000) 115000 k0 ∧ zB (-115000) 115000 k1 ∧ zB (-115000) 115000 k2 ∧ zB (-115000) 115000 k3 ∧ va_P (dC, dI) classes (wM ad cI N k0 k1 k2 k3) H) (zAM ad)) ([.ref (ad 0), .int (zi a)] : List Value).toArray s 0 0 (zAM ad)) (F0 m 104 ls [])) → ∀ (k : Nat) (w t i : Int) (ls : Array Slot) (H : Heap) (locs : List Loc) (k0 k1 k2 k3 : Int), zB (-115000) 115000 k0 → zB (-115000) 115000 k1 → zB (-115000) 115000 k2 → zB (-115000) 115000 k3 → va_P (dC, dI) classes (wM ad cI N k0 k1 k2 k3) H → va_S (zAM ad) s.heap H locs → zB 0 2545620 w → zB 0 60 t → zB 0 60 i → t ≤ i → i ≤ N 7 0 → 60 - i < (k : Int) → f_M_overtake_l N a z k w t i = r → lv_has ls 7 [(0, .ref (ad 0)), (1, .int (zi a)), (2, .int (zi w)), (3, .int (zi t)), (4, .int (zi i))] → W p l e { frames := 5, cells := 0, slots := 0, locals := 120 } s m ([.ref (ad 0), .int (zi a)] : List Value).toArray below meth c H locs 0 0 (MQ below (zQ (some (.int (zi r))) (fun H => ∃ k0 k1 k2 k3 : Int, zB (-115000) 115000 k0 ∧ zB (-115000) 115000 k1 ∧ zB (-115000) 115000 k2 ∧ zB (-115000) 115000 k3 ∧ va_P (dC, dI) classes (wM ad cI N k0 k1 k2 k3) H) (zAM ad)) ([.ref (ad 0), .int (zi a)] : List Value).toArray s 0 0 (zAM ad)) (F0 m 19 ls []) := by
      intro z hz k
      induction k with
      | zero =>
        intro w t i ls H locs k0 k1 k2 k3 hk0 hk1 hk2 hk3 hP hS hb_w hb_t hb_i hi_0 hi_1 hk hq hl
        exact absurd hk (by have := hb_w.1; have := hb_w.2; have := hb_t.1; have := hb_t.2; have := hb_i.1; have := hb_i.2; omega)
      | succ k ih =>
        intro w t i ls H locs k0 k1 k2 k3 hk0 hk1 hk2 hk3 hP hS hb_w hb_t hb_i hi_0 hi_1 hk hq hl
        obtain ⟨hl_w, hh_w⟩ := id hb_w
        obtain ⟨hl_t, hh_t⟩ := id hb_t
        obtain ⟨hl_i, hh_i⟩ := id hb_i
        replace hq := (f_M_overtake_l_s N a z k w t i).symm.trans hq
        refine lv_iload hx hb d_M_overtake_19 (lv_at hl 4 rfl) ?_
        refine lv_aload_n hx hb d_M_overtake_21 rfl (lv_at hl 0 rfl) ?_
        refine va_get (D := (dC, dI)) (ci := 2) (v := .int (zi (N 7 0))) (C := R_M) (T := T_M) (N := 17) hx hb hw i_M hown hK hP 0 rfl rfl 0 (by decide) (hw _ m_226) (fun _ h9 => h9) rfl d_M_overtake_22 ?_
        refine zr_icmp_ge (tgt := 104) hx hb (zB.I hb_i (by decide) (by decide)) (zB.I (jN_s0 hI) (by decide) (by decide)) d_M_overtake_25 (by decide) (fun c_4 => ?_) (fun c_4 => ?_)
        · replace hq := (if_neg c_4).symm.trans hq
          exact hz w (zB.w hb_w (by decide) (by decide)) ls _ _ k0 k1 k2 k3 (zB.w hk0 (by decide) (by decide)) (zB.w hk1 (by decide) (by decide)) (zB.w hk2 (by decide) (by decide)) (zB.w hk3 (by decide) (by decide)) hP hS hq (lv_sub hl [0, 1, 2] rfl)
        · replace hq := (if_pos c_4).symm.trans hq
          refine lv_aload_n hx hb d_M_overtake_28 rfl (lv_at hl 0 rfl) ?_
          refine lv_iload hx hb d_M_overtake_29 (lv_at hl 4 rfl) ?_
          refine lv_iconst (v := zi 0) hx hb d_M_overtake_31 rfl ?_
          refine zc_w (va_runV (As := [.int (zi i), .int (zi 0)]) (rest := []) ⟨hx, hb, hml, hown, hts⟩ (k_M_sightOf l dC dI ad cI N k0 k1 k2 k3 hI hj (zB.w hk0 (by decide) (by decide)) (zB.w hk1 (by decide) (by decide)) (zB.w hk2 (by decide) (by decide)) (zB.w hk3 (by decide) (by decide)) i 0 ⟨by omega, by omega⟩ (zB.w (zb_c 0) (by decide) (by decide)) ) (zcV 2 hts m_324 m_3 m_322 m_323 m_400 rfl rfl q_M_sightOf ⟨Nat.le_of_ble_eq_true rfl, Nat.le_of_ble_eq_true rfl⟩) (zpM0 hP hK [.int (zi i), .int (zi 0)]) rfl rfl hl.1 rfl (lv_room (Nat.le_of_ble_eq_true rfl)) d_M_overtake_32 ⟨Nat.zero_le _, Nat.zero_le _⟩) hS (fun q _ h => h) (fun q h => h) (fun H locs hP hz1 hk1 hS => ?_)
          clear hz1 hk1
          obtain ⟨k0_e_5, k1_e_5, k2_e_5, k3_e_5, hk0_e_5, hk1_e_5, hk2_e_5, hk3_e_5, hP⟩ := hP
          have b_6 : zB (-2545620) 2545620 (f_M_sightOf N i 0) := br_M_sightOf N i 0 hI ⟨by omega, by omega⟩ (zB.w (zb_c 0) (by decide) (by decide)) 
          refine lv_iload_n hx hb d_M_overtake_35 rfl (lv_at hl 1 rfl) ?_
          refine zr_icmp_lt (tgt := 43) hx hb (zB.I b_6 (by decide) (by decide)) (zB.I g_3 (by decide) (by decide)) d_M_overtake_36 (by decide) (fun c_7 => ?_) (fun c_7 => ?_)
          · replace hq := (if_pos c_7).symm.trans hq
            refine lv_iconst (v := zi 0) hx hb d_M_overtake_43 rfl ?_
            refine lv_istore (lv' := [(5, .int (zi 0)), (0, .ref (ad 0)), (1, .int (zi a)), (2, .int (zi w)), (3, .int (zi t)), (4, .int (zi i))]) hx hb d_M_overtake_44 hl (by decide) rfl (fun ls hl => ?_)
            refine lv_iload hx hb d_M_overtake_46 (lv_at hl 0 rfl) ?_
            refine zr_if_eq (tgt := 55) hx hb (zB.I (zb_c 0) (by decide) (by decide)) d_M_overtake_48 (by decide) (fun _ => ?_) (fun c => absurd (by decide : (0 : Int) = 0) c)
            refine lv_iload hx hb d_M_overtake_55 (lv_at hl 5 rfl) ?_
            refine lv_iconst (v := zi 1) hx hb d_M_overtake_57 rfl ?_
            have b_8 : zB 1 61 (i + 1) := zB.w (zb_add hb_i (zb_c 1)) (by decide) (by decide)
            refine zr_iadd hx hb d_M_overtake_58 ?_
            refine lv_istore_n (lv' := [(3, .int (zi (i + 1))), (5, .int (zi 0)), (0, .ref (ad 0)), (1, .int (zi a)), (2, .int (zi w)), (4, .int (zi i))]) hx hb d_M_overtake_59 rfl hl (by decide) rfl (fun ls hl => ?_)
            refine lv_iload hx hb d_M_overtake_60 (lv_at hl 1 rfl) ?_
            refine zr_if_eq (tgt := 82) hx hb (zB.I (zb_c 0) (by decide) (by decide)) d_M_overtake_62 (by decide) (fun _ => ?_) (fun c => absurd (by decide : (0 : Int) = 0) c)
            refine lv_iconst (v := zi 0) hx hb d_M_overtake_82 rfl ?_
            refine lv_istore (lv' := [(6, .int (zi 0)), (3, .int (zi (i + 1))), (5, .int (zi 0)), (0, .ref (ad 0)), (1, .int (zi a)), (2, .int (zi w)), (4, .int (zi i))]) hx hb d_M_overtake_83 hl (by decide) rfl (fun ls hl => ?_)
            refine lv_iload hx hb d_M_overtake_85 (lv_at hl 0 rfl) ?_
            refine lv_iload_n hx hb d_M_overtake_87 rfl (lv_at hl 5 rfl) ?_
            refine zr_icmp_le (tgt := 96) hx hb (zB.I (zb_c 0) (by decide) (by decide)) (zB.I hb_w (by decide) (by decide)) d_M_overtake_88 (by decide) (fun c_9 => ?_) (fun c_9 => ?_)
            · replace hq := (if_neg c_9).symm.trans hq
              refine lv_iload_n hx hb d_M_overtake_96 rfl (lv_at hl 5 rfl) ?_
              refine lv_istore_n (lv' := [(2, .int (zi w)), (6, .int (zi 0)), (3, .int (zi (i + 1))), (5, .int (zi 0)), (0, .ref (ad 0)), (1, .int (zi a)), (4, .int (zi i))]) hx hb d_M_overtake_97 rfl hl (by decide) rfl (fun ls hl => ?_)
              refine lv_iinc (v := zi (i + 1)) (lv' := [(4, .int (zi (i + 1))), (2, .int (zi w)), (6, .int (zi 0)), (3, .int (zi (i + 1))), (5, .int (zi 0)), (0, .ref (ad 0)), (1, .int (zi a))]) hx hb d_M_overtake_98 hl (k := 6) rfl (zi_add _ _) (by decide) rfl (fun ls hl => ?_)
              refine lv_goto (tgt := 19) hx hb d_M_overtake_101 (by decide) ?_
              exact ih w (i + 1) (i + 1) ls _ _ k0_e_5 k1_e_5 k2_e_5 k3_e_5 (zB.w hk0_e_5 (by decide) (by decide)) (zB.w hk1_e_5 (by decide) (by decide)) (zB.w hk2_e_5 (by decide) (by decide)) (zB.w hk3_e_5 (by decide) (by decide)) hP hS (zB.w hb_w (by decide) (by decide)) ⟨by have h9 := b_8.1; have h8 := b_8.2; omega, by have h9 := b_8.1; have h8 := b_8.2; omega⟩ ⟨by have h9 := b_8.1; have h8 := b_8.2; omega, by have h9 := b_8.1; have h8 := b_8.2; omega⟩ (by omega) (by omega) (by omega) hq (lv_sub hl [5, 6, 1, 3, 0] rfl)
            · replace hq := (if_pos c_9).symm.trans hq
              have r_10 : zB 0 (-1) w := ⟨hb_w.1, (Int.le_sub_one_of_lt c_9)⟩
              refine lv_iload hx hb d_M_overtake_91 (lv_at hl 0 rfl) ?_
              refine lv_goto (tgt := 97) hx hb d_M_overtake_93 (by decide) ?_
              refine lv_istore_n (lv' := [(2, .int (zi 0)), (6, .int (zi 0)), (3, .int (zi (i + 1))), (5, .int (zi 0)), (0, .ref (ad 0)), (1, .int (zi a)), (4, .int (zi i))]) hx hb d_M_overtake_97 rfl hl (by decide) rfl (fun ls hl => ?_)
              refine lv_iinc (v := zi (i + 1)) (lv' := [(4, .int (zi (i + 1))), (2, .int (zi 0)), (6, .int (zi 0)), (3, .int (zi (i + 1))), (5, .int (zi 0)), (0, .ref (ad 0)), (1, .int (zi a))]) hx hb d_M_overtake_98 hl (k := 6) rfl (zi_add _ _) (by decide) rfl (fun ls hl => ?_)
              refine lv_goto (tgt := 19) hx hb d_M_overtake_101 (by decide) ?_
              exact ih 0 (i + 1) (i + 1) ls _ _ k0_e_5 k1_e_5 k2_e_5 k3_e_5 (zB.w hk0_e_5 (by decide) (by decide)) (zB.w hk1_e_5 (by decide) (by decide)) (zB.w hk2_e_5 (by decide) (by decide)) (zB.w hk3_e_5 (by decide) (by decide)) hP hS (zB.w (zb_c 0) (by decide) (by decide)) ⟨by have h9 := b_8.1; have h8 := b_8.2; omega, by have h9 := b_8.1; have h8 := b_8.2; omega⟩ ⟨by have h9 := b_8.1; have h8 := b_8.2; omega, by have h9 := b_8.1; have h8 := b_8.2; omega⟩ (by omega) (by omega) (by omega) hq (lv_sub hl [5, 6, 1, 3, 0] rfl)
          · replace hq := (if_neg c_7).symm.trans hq
            refine lv_iconst (v := zi 1) hx hb d_M_overtake_39 rfl ?_
            refine lv_goto (tgt := 44) hx hb d_M_overtake_40 (by decide) ?_
            refine lv_istore (lv' := [(5, .int (zi 1)), (0, .ref (ad 0)), (1, .int (zi a)), (2, .int (zi w)), (3, .int (zi t)), (4, .int (zi i))]) hx hb d_M_overtake_44 hl (by decide) rfl (fun ls hl => ?_)
            refine lv_iload hx hb d_M_overtake_46 (lv_at hl 0 rfl) ?_
            refine zr_if_eq (tgt := 55) hx hb (zB.I (zb_c 1) (by decide) (by decide)) d_M_overtake_48 (by decide) (fun c => absurd c (by decide : ¬ (1 : Int) = 0)) (fun _ => ?_)
            refine lv_iload_n hx hb d_M_overtake_51 rfl (lv_at hl 4 rfl) ?_
            refine lv_goto (tgt := 59) hx hb d_M_overtake_52 (by decide) ?_
            refine lv_istore_n (lv' := [(3, .int (zi t)), (5, .int (zi 1)), (0, .ref (ad 0)), (1, .int (zi a)), (2, .int (zi w)), (4, .int (zi i))]) hx hb d_M_overtake_59 rfl hl (by decide) rfl (fun ls hl => ?_)
            refine lv_iload hx hb d_M_overtake_60 (lv_at hl 1 rfl) ?_
            refine zr_if_eq (tgt := 82) hx hb (zB.I (zb_c 1) (by decide) (by decide)) d_M_overtake_62 (by decide) (fun c => absurd c (by decide : ¬ (1 : Int) = 0)) (fun _ => ?_)
            refine lv_aload_n hx hb d_M_overtake_65 rfl (lv_at hl 2 rfl) ?_
            refine va_get (D := (dC, dI)) (ci := 2) (v := .ref (ad 4)) (C := R_M) (T := T_M) (N := 17) hx hb hw i_M hown hK hP 0 rfl rfl 4 (by decide) (hw _ m_230) (fun _ h9 => h9) rfl d_M_overtake_66 ?_
            refine lv_iload hx hb d_M_overtake_69 (lv_at hl 5 rfl) ?_
            refine zr_iald hx hb hK hP 4 0 (cA := cI) (n := 60) (g := N 3) rfl rfl (i := i) (by omega) (by omega) (by decide) d_M_overtake_71 ?_
            refine lv_aload_n hx hb d_M_overtake_72 rfl (lv_at hl 2 rfl) ?_
            refine va_get (D := (dC, dI)) (ci := 2) (v := .ref (ad 4)) (C := R_M) (T := T_M) (N := 17) hx hb hw i_M hown hK hP 0 rfl rfl 4 (by decide) (hw _ m_230) (fun _ h9 => h9) rfl d_M_overtake_73 ?_
            refine lv_iload_n hx hb d_M_overtake_76 rfl (lv_at hl 0 rfl) ?_
            refine zr_iald hx hb hK hP 4 0 (cA := cI) (n := 60) (g := N 3) rfl rfl (i := t) (by omega) (by omega) (by decide) d_M_overtake_77 ?_
            have b_11 : zB (-2545620) 2545620 ((N 3 i) - (N 3 t)) := zB.w (zb_sub (jN_a3 hI i) (jN_a3 hI t)) (by decide) (by decide)
            refine zr_isub hx hb d_M_overtake_78 ?_
            refine lv_goto (tgt := 83) hx hb d_M_overtake_79 (by decide) ?_
            refine lv_istore (lv' := [(6, .int (zi ((N 3 i) - (N 3 t)))), (3, .int (zi t)), (5, .int (zi 1)), (0, .ref (ad 0)), (1, .int (zi a)), (2, .int (zi w)), (4, .int (zi i))]) hx hb d_M_overtake_83 hl (by decide) rfl (fun ls hl => ?_)
            refine lv_iload hx hb d_M_overtake_85 (lv_at hl 0 rfl) ?_
            refine lv_iload_n hx hb d_M_overtake_87 rfl (lv_at hl 5 rfl) ?_
            refine zr_icmp_le (tgt := 96) hx hb (zB.I b_11 (by decide) (by decide)) (zB.I hb_w (by decide) (by decide)) d_M_overtake_88 (by decide) (fun c_12 => ?_) (fun c_12 => ?_)
            · replace hq := (if_neg c_12).symm.trans hq
              refine lv_iload_n hx hb d_M_overtake_96 rfl (lv_at hl 5 rfl) ?_
              refine lv_istore_n (lv' := [(2, .int (zi w)), (6, .int (zi ((N 3 i) - (N 3 t)))), (3, .int (zi t)), (5, .int (zi 1)), (0, .ref (ad 0)), (1, .int (zi a)), (4, .int (zi i))]) hx hb d_M_overtake_97 rfl hl (by decide) rfl (fun ls hl => ?_)
              have b_13 : zB 1 61 (i + 1) := zB.w (zb_add hb_i (zb_c 1)) (by decide) (by decide)
              refine lv_iinc (v := zi (i + 1)) (lv' := [(4, .int (zi (i + 1))), (2, .int (zi w)), (6, .int (zi ((N 3 i) - (N 3 t)))), (3, .int (zi t)), (5, .int (zi 1)), (0, .ref (ad 0)), (1, .int (zi a))]) hx hb d_M_overtake_98 hl (k := 6) rfl (zi_add _ _) (by decide) rfl (fun ls hl => ?_)
              refine lv_goto (tgt := 19) hx hb d_M_overtake_101 (by decide) ?_
              exact ih w t (i + 1) ls _ _ k0_e_5 k1_e_5 k2_e_5 k3_e_5 (zB.w hk0_e_5 (by decide) (by decide)) (zB.w hk1_e_5 (by decide) (by decide)) (zB.w hk2_e_5 (by decide) (by decide)) (zB.w hk3_e_5 (by decide) (by decide)) hP hS (zB.w hb_w (by decide) (by decide)) (zB.w hb_t (by decide) (by decide)) ⟨by have h9 := b_13.1; have h8 := b_13.2; omega, by have h9 := b_13.1; have h8 := b_13.2; omega⟩ (by omega) (by omega) (by omega) hq (lv_sub hl [5, 6, 1, 3, 0] rfl)
            · replace hq := (if_pos c_12).symm.trans hq
              refine lv_iload hx hb d_M_overtake_91 (lv_at hl 0 rfl) ?_
              refine lv_goto (tgt := 97) hx hb d_M_overtake_93 (by decide) ?_
              refine lv_istore_n (lv' := [(2, .int (zi ((N 3 i) - (N 3 t)))), (6, .int (zi ((N 3 i) - (N 3 t)))), (3, .int (zi t)), (5, .int (zi 1)), (0, .ref (ad 0)), (1, .int (zi a)), (4, .int (zi i))]) hx hb d_M_overtake_97 rfl hl (by decide) rfl (fun ls hl => ?_)
              have b_14 : zB 1 61 (i + 1) := zB.w (zb_add hb_i (zb_c 1)) (by decide) (by decide)
              refine lv_iinc (v := zi (i + 1)) (lv' := [(4, .int (zi (i + 1))), (2, .int (zi ((N 3 i) - (N 3 t)))), (6, .int (zi ((N 3 i) - (N 3 t)))), (3, .int (zi t)), (5, .int (zi 1)), (0, .ref (ad 0)), (1, .int (zi a))]) hx hb d_M_overtake_98 hl (k := 6) rfl (zi_add _ _) (by decide) rfl (fun ls hl => ?_)
              refine lv_goto (tgt := 19) hx hb d_M_overtake_101 (by decide) ?_
              exact ih ((N 3 i) - (N 3 t)) t (i + 1) ls _ _ k0_e_5 k1_e_5 k2_e_5 k3_e_5 (zB.w hk0_e_5 (by decide) (by decide)) (zB.w hk1_e_5 (by decide) (by decide)) (zB.w hk2_e_5 (by decide) (by decide)) (zB.w hk3_e_5 (by decide) (by decide)) hP hS ⟨by have h9 := b_11.1; have h8 := b_11.2; omega, by have h9 := b_11.1; have h8 := b_11.2; omega⟩ (zB.w hb_t (by decide) (by decide)) ⟨by have h9 := b_14.1; have h8 := b_14.2; omega, by have h9 := b_14.1; have h8 := b_14.2; omega⟩ (by omega) (by omega) (by omega) hq (lv_sub hl [5, 6, 1, 3, 0] rfl)
    refine L_l _ (fun w hb_w ls H locs k0 k1 k2 k3 hk0 hk1 hk2 hk3 hP hS hq hl => ?_) 61 0 0 0 ls _ _ k0 k1 k2 k3 (zB.w hb_k0 (by decide) (by decide)) (zB.w hb_k1 (by decide) (by decide)) (zB.w hb_k2 (by decide) (by decide)) (zB.w hb_k3 (by decide) (by decide)) hP hS (zB.w (zb_c 0) (by decide) (by decide)) (zB.w (zb_c 0) (by decide) (by decide)) (zB.w (zb_c 0) (by decide) (by decide)) (by omega) (by omega) (by omega) hq (lv_sub hl [3, 4, 2, 1, 0] rfl)
    obtain ⟨hl_w, hh_w⟩ := id hb_w
    refine lv_iload_n hx hb d_M_overtake_104 rfl (lv_at hl 2 rfl) ?_
    exact zw_i hx hb hr hlocks hq ⟨k0, k1, k2, k3, zB.w hk0 (by decide) (by decide), zB.w hk1 (by decide) (by decide), zB.w hk2 (by decide) (by decide), zB.w hk3 (by decide) (by decide), hP⟩ hS d_M_overtake_105
  · replace hq := (if_pos c_1).symm.trans hq
    have r_15 : zB 0 0 (f_M_within a 1 1000000) := ⟨(Int.le_of_eq c_1.symm), (Int.le_of_eq c_1)⟩
    refine lv_iconst (v := zi (-1)) hx hb d_M_overtake_10 rfl ?_
    exact zw_i hx hb hr hlocks hq ⟨k0, k1, k2, k3, zB.w hb_k0 (by decide) (by decide), zB.w hb_k1 (by decide) (by decide), zB.w hb_k2 (by decide) (by decide), zB.w hb_k3 (by decide) (by decide), hP⟩ hS d_M_overtake_11
def f_M_seen_n (N : Nat → Int → Int) (a : Int) (b : Int) (d : Int) (t : Int) (i : Int) (z : Int → Int) : Nat → Int → Int → Int
  | 0, _, _ => 0
  | k + 1, x, j => if j < (N 7 1) then (if x = 0 then (z x) else (if (f_M_isBoxed N j (N 0 i) (N 1 i) ((N 2 i) + (N 7 2)) a b d) = 0 then (f_M_seen_n N a b d t i z k 1 (j + 1)) else (f_M_seen_n N a b d t i z k 0 (j + 1)))) else (z x)
theorem f_M_seen_n_s (N : Nat → Int → Int) (a : Int) (b : Int) (d : Int) (t : Int) (i : Int) (z : Int → Int) (k : Nat) (x j : Int) : f_M_seen_n N a b d t i z (k + 1) x j = (if j < (N 7 1) then (if x = 0 then (z x) else (if (f_M_isBoxed N j (N 0 i) (N 1 i) ((N 2 i) + (N 7 2)) a b d) = 0 then (f_M_seen_n N a b d t i z k 1 (j + 1)) else (f_M_seen_n N a b d t i z k 0 (j + 1)))) else (z x)) := rfl
def f_M_seen_n2 (N : Nat → Int → Int) (a : Int) (b : Int) (d : Int) (t : Int) (i : Int) (z : Int → Int) : Nat → Int → Int → Int
  | 0, _, _ => 0
  | k + 1, x, j => if j < (N 7 1) then (if x = 0 then (z x) else (if (f_M_isBoxed N j (N 0 i) (N 1 i) ((N 2 i) + (N 7 2)) a b d) = 0 then (f_M_seen_n2 N a b d t i z k 1 (j + 1)) else (f_M_seen_n2 N a b d t i z k 0 (j + 1)))) else (z x)
theorem f_M_seen_n2_s (N : Nat → Int → Int) (a : Int) (b : Int) (d : Int) (t : Int) (i : Int) (z : Int → Int) (k : Nat) (x j : Int) : f_M_seen_n2 N a b d t i z (k + 1) x j = (if j < (N 7 1) then (if x = 0 then (z x) else (if (f_M_isBoxed N j (N 0 i) (N 1 i) ((N 2 i) + (N 7 2)) a b d) = 0 then (f_M_seen_n2 N a b d t i z k 1 (j + 1)) else (f_M_seen_n2 N a b d t i z k 0 (j + 1)))) else (z x)) := rfl
def f_M_seen_o (N : Nat → Int → Int) (a : Int) (b : Int) (d : Int) (z : Int → Int) : Nat → Int → Int → Int
  | 0, _, _ => 0
  | k + 1, t, i => if i < (N 7 0) then (if 9000000 < ((f_M_square (a - (N 0 i))) + (f_M_square (b - (N 1 i)))) then (f_M_seen_n N a b d t i (fun x => if x = 0 then (f_M_seen_o N a b d z k (t + 0) (i + 1)) else (f_M_seen_o N a b d z k (t + 1) (i + 1))) 9 0 0) else (f_M_seen_n2 N a b d t i (fun x => if x = 0 then (f_M_seen_o N a b d z k (t + 0) (i + 1)) else (f_M_seen_o N a b d z k (t + 1) (i + 1))) 9 1 0)) else (z t)
theorem f_M_seen_o_s (N : Nat → Int → Int) (a : Int) (b : Int) (d : Int) (z : Int → Int) (k : Nat) (t i : Int) : f_M_seen_o N a b d z (k + 1) t i = (if i < (N 7 0) then (if 9000000 < ((f_M_square (a - (N 0 i))) + (f_M_square (b - (N 1 i)))) then (f_M_seen_n N a b d t i (fun x => if x = 0 then (f_M_seen_o N a b d z k (t + 0) (i + 1)) else (f_M_seen_o N a b d z k (t + 1) (i + 1))) 9 0 0) else (f_M_seen_n2 N a b d t i (fun x => if x = 0 then (f_M_seen_o N a b d z k (t + 0) (i + 1)) else (f_M_seen_o N a b d z k (t + 1) (i + 1))) 9 1 0)) else (z t)) := rfl
def f_M_seen (N : Nat → Int → Int) (a b d : Int) : Int := if (f_M_isPoint a b) = 0 then (-1) else (if (f_M_within d (-100000) 100000) = 0 then (-1) else (f_M_seen_o N a b d (fun t => t) 61 0 0))
set_option maxHeartbeats 4000000 in
set_option maxRecDepth 100000 in
theorem k_M_seen (l : Launch) (dC : Nat → ClassId) (dI : Nat → Nat → Nat) (ad : Nat → Nat) (cI : ClassId) (N : Nat → Int → Int) (k0 k1 k2 k3 : Int) (hI : jN N) (hj : zJ 8 ad) (hb_k0 : zB (-115000) 115000 k0) (hb_k1 : zB (-115000) 115000 k1) (hb_k2 : zB (-115000) 115000 k2) (hb_k3 : zB (-115000) 115000 k3) (a b d : Int) (hb_a : zB (-2147483648) 2147483647 a) (hb_b : zB (-2147483648) 2147483647 b) (hb_d : zB (-2147483648) 2147483647 d) : Met l y_M_seen (Cond.code y_M_seen c_M_seen 8 (some .int) :: zT) { frames := 2, cells := 0, slots := 0, locals := 60 } (va_Pc ([.ref (ad 0), .int (zi a), .int (zi b), .int (zi d)] : List Value) (zWM dC dI ad cI N k0 k1 k2 k3)) (zQ (some (.int (zi (f_M_seen N a b d)))) (fun H => ∃ k0 k1 k2 k3 : Int, zB (-115000) 115000 k0 ∧ zB (-115000) 115000 k1 ∧ zB (-115000) 115000 k2 ∧ zB (-115000) 115000 k3 ∧ va_P (dC, dI) classes (wM ad cI N k0 k1 k2 k3) H) (zAM ad)) 0 0 (zAM ad) := by
  refine zh (cc := c_M_seen) (C := R_M) (by decide) rfl rfl (Nat.le_of_ble_eq_true rfl) ?_
  intro p e s m below meth c ls hx hb hr hlocks hml hown hname hts hl hB
  have hw : ∀ w9 ∈ zT, w9.before ([.ref (ad 0), .int (zi a), .int (zi b), .int (zi d)] : List Value).toArray s = true := fun w9 h => hts w9 (List.mem_cons_of_mem _ h)
  obtain ⟨hP, hK⟩ := hB
  obtain ⟨hn0, hn1⟩ := id (jN_s0 hI)
  have hD := zDM hj cI
  have hS : va_S (zAM ad) s.heap s.heap [] := va_S.rf
  obtain ⟨hz0, hz1⟩ := id (jN_s1 hI)
  obtain ⟨hl_a, hh_a⟩ := id hb_a
  obtain ⟨hl_b, hh_b⟩ := id hb_b
  obtain ⟨hl_d, hh_d⟩ := id hb_d
  generalize hq : f_M_seen N a b d = r
  unfold f_M_seen at hq
  replace hl : lv_has ls 8 [(0, .ref (ad 0)), (1, .int (zi a)), (2, .int (zi b)), (3, .int (zi d))] := hl
  refine lv_iload_n hx hb d_M_seen_0 rfl (lv_at hl 1 rfl) ?_
  refine lv_iload_n hx hb d_M_seen_1 rfl (lv_at hl 2 rfl) ?_
  refine zc_n (va_runS (As := [.int (zi a), .int (zi b)]) (rest := []) ⟨hx, hb, hml, hown, hts⟩ (k_M_isPoint l a b (zB.w hb_a (by decide) (by decide)) (zB.w hb_b (by decide) (by decide)) ) (zcS 2 hts m_249 m_3 m_247 m_248 rfl rfl q_M_isPoint ⟨Nat.le_of_ble_eq_true rfl, Nat.le_of_ble_eq_true rfl⟩) (zp0 [.int (zi a), .int (zi b)]) rfl rfl hl.1 rfl (lv_room (Nat.le_of_ble_eq_true rfl)) d_M_seen_2 ⟨Nat.zero_le _, Nat.zero_le _⟩) ?_
  refine zr_if_eq (tgt := 19) hx hb (zB.I (bb_M_isPoint a b) (by decide) (by decide)) d_M_seen_5 (by decide) (fun c_1 => ?_) (fun c_1 => ?_)
  · replace hq := (if_pos c_1).symm.trans hq
    have r_2 : zB 0 0 (f_M_isPoint a b) := ⟨(Int.le_of_eq c_1.symm), (Int.le_of_eq c_1)⟩
    refine lv_iconst (v := zi (-1)) hx hb d_M_seen_19 rfl ?_
    exact zw_i hx hb hr hlocks hq ⟨k0, k1, k2, k3, zB.w hb_k0 (by decide) (by decide), zB.w hb_k1 (by decide) (by decide), zB.w hb_k2 (by decide) (by decide), zB.w hb_k3 (by decide) (by decide), hP⟩ hS d_M_seen_20
  · replace hq := (if_neg c_1).symm.trans hq
    have r_3 : zB 1 1 (f_M_isPoint a b) := ⟨(by have := (bb_M_isPoint a b).1; omega), (bb_M_isPoint a b).2⟩
    have g_4 := gf_M_isPoint c_1
    obtain ⟨g_4l0, g_4h0⟩ := id g_4.1
    obtain ⟨g_4l1, g_4h1⟩ := id g_4.2
    refine lv_iload_n hx hb d_M_seen_8 rfl (lv_at hl 3 rfl) ?_
    refine lv_ldc (v := zi (-100000)) hx hb hown (hw _ m_253) d_M_seen_9 ?_
    refine lv_ldc (v := zi 100000) hx hb hown (hw _ m_254) d_M_seen_11 ?_
    refine zc_n (va_runS (As := [.int (zi d), .int (zi (-100000)), .int (zi 100000)]) (rest := []) ⟨hx, hb, hml, hown, hts⟩ (k_M_within l d (-100000) 100000 (zB.w hb_d (by decide) (by decide)) (zB.w (zb_c (-100000)) (by decide) (by decide)) (zB.w (zb_c 100000) (by decide) (by decide)) ) (zcS 3 hts m_252 m_3 m_250 m_251 rfl rfl q_M_within ⟨Nat.le_of_ble_eq_true rfl, Nat.le_of_ble_eq_true rfl⟩) (zp0 [.int (zi d), .int (zi (-100000)), .int (zi 100000)]) rfl rfl hl.1 rfl (lv_room (Nat.le_of_ble_eq_true rfl)) d_M_seen_13 ⟨Nat.zero_le _, Nat.zero_le _⟩) ?_
    refine zr_if_ne (tgt := 21) hx hb (zB.I (bb_M_within d (-100000) 100000) (by decide) (by decide)) d_M_seen_16 (by decide) (fun c_5 => ?_) (fun c_5 => ?_)
    · replace hq := (if_neg c_5).symm.trans hq
      have r_6 : zB 1 1 (f_M_within d (-100000) 100000) := ⟨(by have := (bb_M_within d (-100000) 100000).1; omega), (bb_M_within d (-100000) 100000).2⟩
      have g_7 := gf_M_within c_5
      obtain ⟨g_7l, g_7h⟩ := id g_7
      refine lv_iconst (v := zi 0) hx hb d_M_seen_21 rfl ?_
      refine lv_istore (lv' := [(4, .int (zi 0)), (0, .ref (ad 0)), (1, .int (zi a)), (2, .int (zi b)), (3, .int (zi d))]) hx hb d_M_seen_22 hl (by decide) rfl (fun ls hl => ?_)
      refine lv_iconst (v := zi 0) hx hb d_M_seen_24 rfl ?_
      refine lv_istore (lv' := [(5, .int (zi 0)), (4, .int (zi 0)), (0, .ref (ad 0)), (1, .int (zi a)), (2, .int (zi b)), (3, .int (zi d))]) hx hb d_M_seen_25 hl (by decide) rfl (fun ls hl => ?_)
      have L_o : ∀ (z : Int → Int), (∀ (t : Int), zB 0 60 t → ∀ (ls : Array Slot) (H : Heap) (locs : List Loc) (k0 k1 k2 k3 : Int), zB (-115000) 115000 k0 → zB (-115000) 115000 k1 → zB (-115000) 115000 k2 → zB (-115000) 115000 k3 → va_P (dC, dI) classes (wM ad cI N k0 k1 k2 k3) H → va_S (zAM ad) s.heap H locs → z t = r → lv_has ls 8 [(0, .ref (ad 0)), (1, .int (zi a)), (2, .int (zi b)), (3, .int (zi d)), (4, .int (zi t))] → W p l e { frames := 2, cells := 0, slots := 0, locals := 60 } s m ([.ref (ad 0), .int (zi a), .int (zi b), .int (zi d)] : List Value).toArray below meth c H locs 0 0 (MQ below (zQ (some (.int (zi r))) (fun H => ∃ k0 k1 k2 k3 : Int, zB (-115000) 115000 k0 ∧ zB (-115000) 115000 k1 ∧ zB (-115000) 115000 k2 ∧ zB (-115000) 115000 k3 ∧ va_P (dC, dI) classes (wM ad cI N k0 k1 k2 k3) H) (zAM ad)) ([.ref (ad 0), .int (zi a), .int (zi b), .int (zi d)] : List Value).toArray s 0 0 (zAM ad)) (F0 m 166 ls [])) → ∀ (k : Nat) (t i : Int) (ls : Array Slot) (H : Heap) (locs : List Loc) (k0 k1 k2 k3 : Int), zB (-115000) 115000 k0 → zB (-115000) 115000 k1 → zB (-115000) 115000 k2 → zB (-115000) 115000 k3 → va_P (dC, dI) classes (wM ad cI N k0 k1 k2 k3) H → va_S (zAM ad) s.heap H locs → zB 0 60 t → zB 0 60 i → t ≤ i → 60 - i < (k : Int) → f_M_seen_o N a b d z k t i = r → lv_has ls 8 [(0, .ref (ad 0)), (1, .int (zi a)), (2, .int (zi b)), (3, .int (zi d)), (4, .int (zi t)), (5, .int (zi i))] → W p l e { frames := 2, cells := 0, slots := 0, locals := 60 } s m ([.ref (ad 0), .int (zi a), .int (zi b), .int (zi d)] : List Value).toArray below meth c H locs 0 0 (MQ below (zQ (some (.int (zi r))) (fun H => ∃ k0 k1 k2 k3 : Int, zB (-115000) 115000 k0 ∧ zB (-115000) 115000 k1 ∧ zB (-115000) 115000 k2 ∧ zB (-115000) 115000 k3 ∧ va_P (dC, dI) classes (wM ad cI N k0 k1 k2 k3) H) (zAM ad)) ([.ref (ad 0), .int (zi a), .int (zi b), .int (zi d)] : List Value).toArray s 0 0 (zAM ad)) (F0 m 27 ls []) := by
        intro z hz k
        induction k with
        | zero =>
          intro t i ls H locs k0 k1 k2 k3 hk0 hk1 hk2 hk3 hP hS hb_t hb_i hi_0 hk hq hl
          exact absurd hk (by have := hb_t.1; have := hb_t.2; have := hb_i.1; have := hb_i.2; omega)
        | succ k ih =>
          intro t i ls H locs k0 k1 k2 k3 hk0 hk1 hk2 hk3 hP hS hb_t hb_i hi_0 hk hq hl
          obtain ⟨hl_t, hh_t⟩ := id hb_t
          obtain ⟨hl_i, hh_i⟩ := id hb_i
          replace hq := (f_M_seen_o_s N a b d z k t i).symm.trans hq
          refine lv_iload hx hb d_M_seen_27 (lv_at hl 5 rfl) ?_
          refine lv_aload_n hx hb d_M_seen_29 rfl (lv_at hl 0 rfl) ?_
          refine va_get (D := (dC, dI)) (ci := 2) (v := .int (zi (N 7 0))) (C := R_M) (T := T_M) (N := 17) hx hb hw i_M hown hK hP 0 rfl rfl 0 (by decide) (hw _ m_226) (fun _ h9 => h9) rfl d_M_seen_30 ?_
          refine zr_icmp_ge (tgt := 166) hx hb (zB.I hb_i (by decide) (by decide)) (zB.I (jN_s0 hI) (by decide) (by decide)) d_M_seen_33 (by decide) (fun c_8 => ?_) (fun c_8 => ?_)
          · replace hq := (if_neg c_8).symm.trans hq
            exact hz t (zB.w hb_t (by decide) (by decide)) ls _ _ k0 k1 k2 k3 (zB.w hk0 (by decide) (by decide)) (zB.w hk1 (by decide) (by decide)) (zB.w hk2 (by decide) (by decide)) (zB.w hk3 (by decide) (by decide)) hP hS hq (lv_sub hl [0, 1, 2, 3, 4] rfl)
          · replace hq := (if_pos c_8).symm.trans hq
            refine lv_iload_n hx hb d_M_seen_36 rfl (lv_at hl 1 rfl) ?_
            refine lv_aload_n hx hb d_M_seen_37 rfl (lv_at hl 0 rfl) ?_
            refine va_get (D := (dC, dI)) (ci := 2) (v := .ref (ad 1)) (C := R_M) (T := T_M) (N := 17) hx hb hw i_M hown hK hP 0 rfl rfl 1 (by decide) (hw _ m_227) (fun _ h9 => h9) rfl d_M_seen_38 ?_
            refine lv_iload hx hb d_M_seen_41 (lv_at hl 5 rfl) ?_
            refine zr_iald hx hb hK hP 1 0 (cA := cI) (n := 60) (g := N 0) rfl rfl (i := i) (by omega) (by omega) (by decide) d_M_seen_43 ?_
            have b_9 : zB (-30000) 30000 (a - (N 0 i)) := zB.w (zb_sub g_4.1 (jN_a0 hI i)) (by decide) (by decide)
            refine zr_isub hx hb d_M_seen_44 ?_
            refine zr_i2l hx hb (zB.I b_9 (by decide) (by decide)) d_M_seen_45 ?_
            refine zc_n (va_runS (As := [.long (zl (a - (N 0 i)))]) (rest := []) ⟨hx, hb, hml, hown, hts⟩ (k_M_square l (a - (N 0 i)) (zB.w b_9 (by decide) (by decide)) ) (zcS 1 hts m_257 m_3 m_255 m_256 rfl rfl q_M_square ⟨Nat.le_of_ble_eq_true rfl, Nat.le_of_ble_eq_true rfl⟩) (zp0 [.long (zl (a - (N 0 i)))]) rfl rfl hl.1 rfl (lv_room (Nat.le_of_ble_eq_true rfl)) d_M_seen_46 ⟨Nat.zero_le _, Nat.zero_le _⟩) ?_
            have b_10 : zB 0 900000000 (f_M_square (a - (N 0 i))) := zB.w (zb_sq (A := 30000) (zB.w b_9 (by decide) (by decide))) (by decide) (by decide)
            refine lv_iload_n hx hb d_M_seen_49 rfl (lv_at hl 2 rfl) ?_
            refine lv_aload_n hx hb d_M_seen_50 rfl (lv_at hl 0 rfl) ?_
            refine va_get (D := (dC, dI)) (ci := 2) (v := .ref (ad 2)) (C := R_M) (T := T_M) (N := 17) hx hb hw i_M hown hK hP 0 rfl rfl 2 (by decide) (hw _ m_228) (fun _ h9 => h9) rfl d_M_seen_51 ?_
            refine lv_iload hx hb d_M_seen_54 (lv_at hl 5 rfl) ?_
            refine zr_iald hx hb hK hP 2 0 (cA := cI) (n := 60) (g := N 1) rfl rfl (i := i) (by omega) (by omega) (by decide) d_M_seen_56 ?_
            have b_11 : zB (-30000) 30000 (b - (N 1 i)) := zB.w (zb_sub g_4.2 (jN_a1 hI i)) (by decide) (by decide)
            refine zr_isub hx hb d_M_seen_57 ?_
            refine zr_i2l hx hb (zB.I b_11 (by decide) (by decide)) d_M_seen_58 ?_
            refine zc_n (va_runS (As := [.long (zl (b - (N 1 i)))]) (rest := [.long (zl (f_M_square (a - (N 0 i))))]) ⟨hx, hb, hml, hown, hts⟩ (k_M_square l (b - (N 1 i)) (zB.w b_11 (by decide) (by decide)) ) (zcS 1 hts m_257 m_3 m_255 m_256 rfl rfl q_M_square ⟨Nat.le_of_ble_eq_true rfl, Nat.le_of_ble_eq_true rfl⟩) (zp0 [.long (zl (b - (N 1 i)))]) rfl rfl hl.1 rfl (lv_room (Nat.le_of_ble_eq_true rfl)) d_M_seen_59 ⟨Nat.zero_le _, Nat.zero_le _⟩) ?_
            have b_12 : zB 0 900000000 (f_M_square (b - (N 1 i))) := zB.w (zb_sq (A := 30000) (zB.w b_11 (by decide) (by decide))) (by decide) (by decide)
            have b_13 : zB 0 1800000000 ((f_M_square (a - (N 0 i))) + (f_M_square (b - (N 1 i)))) := zB.w (zb_add b_10 b_12) (by decide) (by decide)
            refine zr_ladd hx hb d_M_seen_62 ?_
            refine lv_ldc2 (v := zl 9000000) hx hb hown (hw _ m_363) d_M_seen_63 ?_
            refine zr_lcmp_gt (tgt := 74) hx hb (zB.L b_13 (by decide) (by decide)) (zB.L (zb_c 9000000) (by decide) (by decide)) d_M_seen_66 d_M_seen_67 (by decide) (fun c_14 => ?_) (fun c_14 => ?_)
            · replace hq := (if_pos c_14).symm.trans hq
              have r_15 : zB 9000001 1800000000 ((f_M_square (a - (N 0 i))) + (f_M_square (b - (N 1 i)))) := ⟨(Int.add_one_le_of_lt c_14), b_13.2⟩
              refine lv_iconst (v := zi 0) hx hb d_M_seen_74 rfl ?_
              refine lv_istore (lv' := [(6, .int (zi 0)), (0, .ref (ad 0)), (1, .int (zi a)), (2, .int (zi b)), (3, .int (zi d)), (4, .int (zi t)), (5, .int (zi i))]) hx hb d_M_seen_75 hl (by decide) rfl (fun ls hl => ?_)
              refine lv_iconst (v := zi 0) hx hb d_M_seen_77 rfl ?_
              refine lv_istore (lv' := [(7, .int (zi 0)), (6, .int (zi 0)), (0, .ref (ad 0)), (1, .int (zi a)), (2, .int (zi b)), (3, .int (zi d)), (4, .int (zi t)), (5, .int (zi i))]) hx hb d_M_seen_78 hl (by decide) rfl (fun ls hl => ?_)
              have L_n : ∀ (z : Int → Int), (∀ (x : Int), zB 0 1 x → ∀ (ls : Array Slot) (H : Heap) (locs : List Loc) (k0 k1 k2 k3 : Int), zB (-115000) 115000 k0 → zB (-115000) 115000 k1 → zB (-115000) 115000 k2 → zB (-115000) 115000 k3 → va_P (dC, dI) classes (wM ad cI N k0 k1 k2 k3) H → va_S (zAM ad) s.heap H locs → z x = r → lv_has ls 8 [(0, .ref (ad 0)), (1, .int (zi a)), (2, .int (zi b)), (3, .int (zi d)), (4, .int (zi t)), (5, .int (zi i)), (6, .int (zi x))] → W p l e { frames := 2, cells := 0, slots := 0, locals := 60 } s m ([.ref (ad 0), .int (zi a), .int (zi b), .int (zi d)] : List Value).toArray below meth c H locs 0 0 (MQ below (zQ (some (.int (zi r))) (fun H => ∃ k0 k1 k2 k3 : Int, zB (-115000) 115000 k0 ∧ zB (-115000) 115000 k1 ∧ zB (-115000) 115000 k2 ∧ zB (-115000) 115000 k3 ∧ va_P (dC, dI) classes (wM ad cI N k0 k1 k2 k3) H) (zAM ad)) ([.ref (ad 0), .int (zi a), .int (zi b), .int (zi d)] : List Value).toArray s 0 0 (zAM ad)) (F0 m 145 ls [])) → ∀ (k : Nat) (x j : Int) (ls : Array Slot) (H : Heap) (locs : List Loc) (k0 k1 k2 k3 : Int), zB (-115000) 115000 k0 → zB (-115000) 115000 k1 → zB (-115000) 115000 k2 → zB (-115000) 115000 k3 → va_P (dC, dI) classes (wM ad cI N k0 k1 k2 k3) H → va_S (zAM ad) s.heap H locs → zB 0 1 x → zB 0 8 j → 8 - j < (k : Int) → f_M_seen_n N a b d t i z k x j = r → lv_has ls 8 [(0, .ref (ad 0)), (1, .int (zi a)), (2, .int (zi b)), (3, .int (zi d)), (4, .int (zi t)), (5, .int (zi i)), (6, .int (zi x)), (7, .int (zi j))] → W p l e { frames := 2, cells := 0, slots := 0, locals := 60 } s m ([.ref (ad 0), .int (zi a), .int (zi b), .int (zi d)] : List Value).toArray below meth c H locs 0 0 (MQ below (zQ (some (.int (zi r))) (fun H => ∃ k0 k1 k2 k3 : Int, zB (-115000) 115000 k0 ∧ zB (-115000) 115000 k1 ∧ zB (-115000) 115000 k2 ∧ zB (-115000) 115000 k3 ∧ va_P (dC, dI) classes (wM ad cI N k0 k1 k2 k3) H) (zAM ad)) ([.ref (ad 0), .int (zi a), .int (zi b), .int (zi d)] : List Value).toArray s 0 0 (zAM ad)) (F0 m 80 ls []) := by
                intro z hz k
                induction k with
                | zero =>
                  intro x j ls H locs k0 k1 k2 k3 hk0 hk1 hk2 hk3 hP hS hb_x hb_j  hk hq hl
                  exact absurd hk (by have := hb_x.1; have := hb_x.2; have := hb_j.1; have := hb_j.2; omega)
                | succ k ih =>
                  intro x j ls H locs k0 k1 k2 k3 hk0 hk1 hk2 hk3 hP hS hb_x hb_j  hk hq hl
                  obtain ⟨hl_x, hh_x⟩ := id hb_x
                  obtain ⟨hl_j, hh_j⟩ := id hb_j
                  replace hq := (f_M_seen_n_s N a b d t i z k x j).symm.trans hq
                  refine lv_iload hx hb d_M_seen_80 (lv_at hl 7 rfl) ?_
                  refine lv_aload_n hx hb d_M_seen_82 rfl (lv_at hl 0 rfl) ?_
                  refine va_get (D := (dC, dI)) (ci := 2) (v := .int (zi (N 7 1))) (C := R_M) (T := T_M) (N := 17) hx hb hw i_M hown hK hP 0 rfl rfl 7 (by decide) (hw _ m_233) (fun _ h9 => h9) rfl d_M_seen_83 ?_
                  refine zr_icmp_ge (tgt := 145) hx hb (zB.I hb_j (by decide) (by decide)) (zB.I (jN_s1 hI) (by decide) (by decide)) d_M_seen_86 (by decide) (fun c_16 => ?_) (fun c_16 => ?_)
                  · replace hq := (if_neg c_16).symm.trans hq
                    exact hz x (zB.w hb_x (by decide) (by decide)) ls _ _ k0 k1 k2 k3 (zB.w hk0 (by decide) (by decide)) (zB.w hk1 (by decide) (by decide)) (zB.w hk2 (by decide) (by decide)) (zB.w hk3 (by decide) (by decide)) hP hS hq (lv_sub hl [0, 1, 2, 3, 4, 5, 6] rfl)
                  · replace hq := (if_pos c_16).symm.trans hq
                    refine lv_iload hx hb d_M_seen_89 (lv_at hl 6 rfl) ?_
                    refine zr_if_eq (tgt := 145) hx hb (zB.I hb_x (by decide) (by decide)) d_M_seen_91 (by decide) (fun c_17 => ?_) (fun c_17 => ?_)
                    · replace hq := (if_pos c_17).symm.trans hq
                      have r_18 : zB 0 0 x := ⟨(Int.le_of_eq c_17.symm), (Int.le_of_eq c_17)⟩
                      exact hz x (zB.w r_18 (by decide) (by decide)) ls _ _ k0 k1 k2 k3 (zB.w hk0 (by decide) (by decide)) (zB.w hk1 (by decide) (by decide)) (zB.w hk2 (by decide) (by decide)) (zB.w hk3 (by decide) (by decide)) hP hS hq (lv_sub hl [0, 1, 2, 3, 4, 5, 6] rfl)
                    · replace hq := (if_neg c_17).symm.trans hq
                      have r_19 : zB 1 1 x := ⟨(by have := hb_x.1; omega), hb_x.2⟩
                      refine lv_aload_n hx hb d_M_seen_94 rfl (lv_at hl 0 rfl) ?_
                      refine lv_iload hx hb d_M_seen_95 (lv_at hl 7 rfl) ?_
                      refine lv_aload_n hx hb d_M_seen_97 rfl (lv_at hl 0 rfl) ?_
                      refine va_get (D := (dC, dI)) (ci := 2) (v := .ref (ad 1)) (C := R_M) (T := T_M) (N := 17) hx hb hw i_M hown hK hP 0 rfl rfl 1 (by decide) (hw _ m_227) (fun _ h9 => h9) rfl d_M_seen_98 ?_
                      refine lv_iload hx hb d_M_seen_101 (lv_at hl 5 rfl) ?_
                      refine zr_iald hx hb hK hP 1 0 (cA := cI) (n := 60) (g := N 0) rfl rfl (i := i) (by omega) (by omega) (by decide) d_M_seen_103 ?_
                      refine lv_aload_n hx hb d_M_seen_104 rfl (lv_at hl 0 rfl) ?_
                      refine va_get (D := (dC, dI)) (ci := 2) (v := .ref (ad 2)) (C := R_M) (T := T_M) (N := 17) hx hb hw i_M hown hK hP 0 rfl rfl 2 (by decide) (hw _ m_228) (fun _ h9 => h9) rfl d_M_seen_105 ?_
                      refine lv_iload hx hb d_M_seen_108 (lv_at hl 5 rfl) ?_
                      refine zr_iald hx hb hK hP 2 0 (cA := cI) (n := 60) (g := N 1) rfl rfl (i := i) (by omega) (by omega) (by decide) d_M_seen_110 ?_
                      refine lv_aload_n hx hb d_M_seen_111 rfl (lv_at hl 0 rfl) ?_
                      refine va_get (D := (dC, dI)) (ci := 2) (v := .ref (ad 3)) (C := R_M) (T := T_M) (N := 17) hx hb hw i_M hown hK hP 0 rfl rfl 3 (by decide) (hw _ m_229) (fun _ h9 => h9) rfl d_M_seen_112 ?_
                      refine lv_iload hx hb d_M_seen_115 (lv_at hl 5 rfl) ?_
                      refine zr_iald hx hb hK hP 3 0 (cA := cI) (n := 60) (g := N 2) rfl rfl (i := i) (by omega) (by omega) (by decide) d_M_seen_117 ?_
                      refine lv_aload_n hx hb d_M_seen_118 rfl (lv_at hl 0 rfl) ?_
                      refine va_get (D := (dC, dI)) (ci := 2) (v := .int (zi (N 7 2))) (C := R_M) (T := T_M) (N := 17) hx hb hw i_M hown hK hP 0 rfl rfl 9 (by decide) (hw _ m_235) (fun _ h9 => h9) rfl d_M_seen_119 ?_
                      have b_20 : zB (-100000) 101000 ((N 2 i) + (N 7 2)) := zB.w (zb_add (jN_a2 hI i) (jN_s2 hI)) (by decide) (by decide)
                      refine zr_iadd hx hb d_M_seen_122 ?_
                      refine lv_iload_n hx hb d_M_seen_123 rfl (lv_at hl 1 rfl) ?_
                      refine lv_iload_n hx hb d_M_seen_124 rfl (lv_at hl 2 rfl) ?_
                      refine lv_iload_n hx hb d_M_seen_125 rfl (lv_at hl 3 rfl) ?_
                      refine zc_w (va_runV (As := [.int (zi j), .int (zi (N 0 i)), .int (zi (N 1 i)), .int (zi ((N 2 i) + (N 7 2))), .int (zi a), .int (zi b), .int (zi d)]) (rest := []) ⟨hx, hb, hml, hown, hts⟩ (k_M_isBoxed l dC dI ad cI N k0 k1 k2 k3 hI hj (zB.w hk0 (by decide) (by decide)) (zB.w hk1 (by decide) (by decide)) (zB.w hk2 (by decide) (by decide)) (zB.w hk3 (by decide) (by decide)) j (N 0 i) (N 1 i) ((N 2 i) + (N 7 2)) a b d ⟨by omega, by omega⟩ (zB.w (jN_a0 hI i) (by decide) (by decide)) (zB.w (jN_a1 hI i) (by decide) (by decide)) (zB.w b_20 (by decide) (by decide)) (zB.w g_4.1 (by decide) (by decide)) (zB.w g_4.2 (by decide) (by decide)) (zB.w g_7 (by decide) (by decide)) ) (zcV 7 hts m_311 m_3 m_309 m_310 m_398 rfl rfl q_M_isBoxed ⟨Nat.le_of_ble_eq_true rfl, Nat.le_of_ble_eq_true rfl⟩) (zpM0 hP hK [.int (zi j), .int (zi (N 0 i)), .int (zi (N 1 i)), .int (zi ((N 2 i) + (N 7 2))), .int (zi a), .int (zi b), .int (zi d)]) rfl rfl hl.1 rfl (lv_room (Nat.le_of_ble_eq_true rfl)) d_M_seen_126 ⟨Nat.zero_le _, Nat.zero_le _⟩) hS (fun q _ h => h) (fun q h => h) (fun H locs hP hz1 hk1 hS => ?_)
                      clear hz1 hk1
                      obtain ⟨k0_e_21, k1_e_21, k2_e_21, k3_e_21, hk0_e_21, hk1_e_21, hk2_e_21, hk3_e_21, hP⟩ := hP
                      refine zr_if_ne (tgt := 136) hx hb (zB.I (bb_M_isBoxed N j (N 0 i) (N 1 i) ((N 2 i) + (N 7 2)) a b d) (by decide) (by decide)) d_M_seen_129 (by decide) (fun c_22 => ?_) (fun c_22 => ?_)
                      · replace hq := (if_neg c_22).symm.trans hq
                        have r_23 : zB 1 1 (f_M_isBoxed N j (N 0 i) (N 1 i) ((N 2 i) + (N 7 2)) a b d) := ⟨(by have := (bb_M_isBoxed N j (N 0 i) (N 1 i) ((N 2 i) + (N 7 2)) a b d).1; omega), (bb_M_isBoxed N j (N 0 i) (N 1 i) ((N 2 i) + (N 7 2)) a b d).2⟩
                        refine lv_iconst (v := zi 0) hx hb d_M_seen_136 rfl ?_
                        refine lv_istore (lv' := [(6, .int (zi 0)), (0, .ref (ad 0)), (1, .int (zi a)), (2, .int (zi b)), (3, .int (zi d)), (4, .int (zi t)), (5, .int (zi i)), (7, .int (zi j))]) hx hb d_M_seen_137 hl (by decide) rfl (fun ls hl => ?_)
                        have b_24 : zB 1 9 (j + 1) := zB.w (zb_add hb_j (zb_c 1)) (by decide) (by decide)
                        refine lv_iinc (v := zi (j + 1)) (lv' := [(7, .int (zi (j + 1))), (6, .int (zi 0)), (0, .ref (ad 0)), (1, .int (zi a)), (2, .int (zi b)), (3, .int (zi d)), (4, .int (zi t)), (5, .int (zi i))]) hx hb d_M_seen_139 hl (k := 7) rfl (zi_add _ _) (by decide) rfl (fun ls hl => ?_)
                        refine lv_goto (tgt := 80) hx hb d_M_seen_142 (by decide) ?_
                        exact ih 0 (j + 1) ls _ _ k0_e_21 k1_e_21 k2_e_21 k3_e_21 (zB.w hk0_e_21 (by decide) (by decide)) (zB.w hk1_e_21 (by decide) (by decide)) (zB.w hk2_e_21 (by decide) (by decide)) (zB.w hk3_e_21 (by decide) (by decide)) hP hS (zB.w (zb_c 0) (by decide) (by decide)) ⟨by have h9 := b_24.1; have h8 := b_24.2; omega, by have h9 := b_24.1; have h8 := b_24.2; omega⟩  (by omega) hq (lv_sub hl [2, 3, 4, 5, 6, 7, 1, 0] rfl)
                      · replace hq := (if_pos c_22).symm.trans hq
                        have r_25 : zB 0 0 (f_M_isBoxed N j (N 0 i) (N 1 i) ((N 2 i) + (N 7 2)) a b d) := ⟨(Int.le_of_eq c_22.symm), (Int.le_of_eq c_22)⟩
                        refine lv_iconst (v := zi 1) hx hb d_M_seen_132 rfl ?_
                        refine lv_goto (tgt := 137) hx hb d_M_seen_133 (by decide) ?_
                        refine lv_istore (lv' := [(6, .int (zi 1)), (0, .ref (ad 0)), (1, .int (zi a)), (2, .int (zi b)), (3, .int (zi d)), (4, .int (zi t)), (5, .int (zi i)), (7, .int (zi j))]) hx hb d_M_seen_137 hl (by decide) rfl (fun ls hl => ?_)
                        have b_26 : zB 1 9 (j + 1) := zB.w (zb_add hb_j (zb_c 1)) (by decide) (by decide)
                        refine lv_iinc (v := zi (j + 1)) (lv' := [(7, .int (zi (j + 1))), (6, .int (zi 1)), (0, .ref (ad 0)), (1, .int (zi a)), (2, .int (zi b)), (3, .int (zi d)), (4, .int (zi t)), (5, .int (zi i))]) hx hb d_M_seen_139 hl (k := 7) rfl (zi_add _ _) (by decide) rfl (fun ls hl => ?_)
                        refine lv_goto (tgt := 80) hx hb d_M_seen_142 (by decide) ?_
                        exact ih 1 (j + 1) ls _ _ k0_e_21 k1_e_21 k2_e_21 k3_e_21 (zB.w hk0_e_21 (by decide) (by decide)) (zB.w hk1_e_21 (by decide) (by decide)) (zB.w hk2_e_21 (by decide) (by decide)) (zB.w hk3_e_21 (by decide) (by decide)) hP hS (zB.w (zb_c 1) (by decide) (by decide)) ⟨by have h9 := b_26.1; have h8 := b_26.2; omega, by have h9 := b_26.1; have h8 := b_26.2; omega⟩  (by omega) hq (lv_sub hl [2, 3, 4, 5, 6, 7, 1, 0] rfl)
              refine L_n _ (fun x hb_x ls H locs k0 k1 k2 k3 hk0 hk1 hk2 hk3 hP hS hq hl => ?_) 9 0 0 ls _ _ k0 k1 k2 k3 (zB.w hk0 (by decide) (by decide)) (zB.w hk1 (by decide) (by decide)) (zB.w hk2 (by decide) (by decide)) (zB.w hk3 (by decide) (by decide)) hP hS (zB.w (zb_c 0) (by decide) (by decide)) (zB.w (zb_c 0) (by decide) (by decide))  (by omega) hq (lv_sub hl [2, 3, 4, 5, 6, 7, 1, 0] rfl)
              obtain ⟨hl_x, hh_x⟩ := id hb_x
              refine lv_iload hx hb d_M_seen_145 (lv_at hl 4 rfl) ?_
              refine lv_iload hx hb d_M_seen_147 (lv_at hl 6 rfl) ?_
              refine zr_if_eq (tgt := 156) hx hb (zB.I hb_x (by decide) (by decide)) d_M_seen_149 (by decide) (fun c_27 => ?_) (fun c_27 => ?_)
              · replace hq := (if_pos c_27).symm.trans hq
                have r_28 : zB 0 0 x := ⟨(Int.le_of_eq c_27.symm), (Int.le_of_eq c_27)⟩
                refine lv_iconst (v := zi 0) hx hb d_M_seen_156 rfl ?_
                have b_29 : zB 0 60 (t + 0) := zB.w (zb_add hb_t (zb_c 0)) (by decide) (by decide)
                refine zr_iadd hx hb d_M_seen_157 ?_
                refine lv_istore (lv' := [(4, .int (zi (t + 0))), (0, .ref (ad 0)), (1, .int (zi a)), (2, .int (zi b)), (3, .int (zi d)), (5, .int (zi i)), (6, .int (zi x))]) hx hb d_M_seen_158 hl (by decide) rfl (fun ls hl => ?_)
                have b_30 : zB 1 61 (i + 1) := zB.w (zb_add hb_i (zb_c 1)) (by decide) (by decide)
                refine lv_iinc (v := zi (i + 1)) (lv' := [(5, .int (zi (i + 1))), (4, .int (zi (t + 0))), (0, .ref (ad 0)), (1, .int (zi a)), (2, .int (zi b)), (3, .int (zi d)), (6, .int (zi x))]) hx hb d_M_seen_160 hl (k := 5) rfl (zi_add _ _) (by decide) rfl (fun ls hl => ?_)
                refine lv_goto (tgt := 27) hx hb d_M_seen_163 (by decide) ?_
                exact ih (t + 0) (i + 1) ls _ _ k0 k1 k2 k3 (zB.w hk0 (by decide) (by decide)) (zB.w hk1 (by decide) (by decide)) (zB.w hk2 (by decide) (by decide)) (zB.w hk3 (by decide) (by decide)) hP hS (zB.w b_29 (by decide) (by decide)) ⟨by have h9 := b_30.1; have h8 := b_30.2; omega, by have h9 := b_30.1; have h8 := b_30.2; omega⟩ (by omega) (by omega) hq (lv_sub hl [2, 3, 4, 5, 1, 0] rfl)
              · replace hq := (if_neg c_27).symm.trans hq
                have r_31 : zB 1 1 x := ⟨(by have := hb_x.1; omega), hb_x.2⟩
                refine lv_iconst (v := zi 1) hx hb d_M_seen_152 rfl ?_
                refine lv_goto (tgt := 157) hx hb d_M_seen_153 (by decide) ?_
                have b_32 : zB 1 61 (t + 1) := zB.w (zb_add hb_t (zb_c 1)) (by decide) (by decide)
                refine zr_iadd hx hb d_M_seen_157 ?_
                refine lv_istore (lv' := [(4, .int (zi (t + 1))), (0, .ref (ad 0)), (1, .int (zi a)), (2, .int (zi b)), (3, .int (zi d)), (5, .int (zi i)), (6, .int (zi x))]) hx hb d_M_seen_158 hl (by decide) rfl (fun ls hl => ?_)
                have b_33 : zB 1 61 (i + 1) := zB.w (zb_add hb_i (zb_c 1)) (by decide) (by decide)
                refine lv_iinc (v := zi (i + 1)) (lv' := [(5, .int (zi (i + 1))), (4, .int (zi (t + 1))), (0, .ref (ad 0)), (1, .int (zi a)), (2, .int (zi b)), (3, .int (zi d)), (6, .int (zi x))]) hx hb d_M_seen_160 hl (k := 5) rfl (zi_add _ _) (by decide) rfl (fun ls hl => ?_)
                refine lv_goto (tgt := 27) hx hb d_M_seen_163 (by decide) ?_
                exact ih (t + 1) (i + 1) ls _ _ k0 k1 k2 k3 (zB.w hk0 (by decide) (by decide)) (zB.w hk1 (by decide) (by decide)) (zB.w hk2 (by decide) (by decide)) (zB.w hk3 (by decide) (by decide)) hP hS ⟨by have h9 := b_32.1; have h8 := b_32.2; omega, by have h9 := b_32.1; have h8 := b_32.2; omega⟩ ⟨by have h9 := b_33.1; have h8 := b_33.2; omega, by have h9 := b_33.1; have h8 := b_33.2; omega⟩ (by omega) (by omega) hq (lv_sub hl [2, 3, 4, 5, 1, 0] rfl)
            · replace hq := (if_neg c_14).symm.trans hq
              have r_34 : zB 0 9000000 ((f_M_square (a - (N 0 i))) + (f_M_square (b - (N 1 i)))) := ⟨b_13.1, (Int.not_lt.mp c_14)⟩
              refine lv_iconst (v := zi 1) hx hb d_M_seen_70 rfl ?_
              refine lv_goto (tgt := 75) hx hb d_M_seen_71 (by decide) ?_
              refine lv_istore (lv' := [(6, .int (zi 1)), (0, .ref (ad 0)), (1, .int (zi a)), (2, .int (zi b)), (3, .int (zi d)), (4, .int (zi t)), (5, .int (zi i))]) hx hb d_M_seen_75 hl (by decide) rfl (fun ls hl => ?_)
              refine lv_iconst (v := zi 0) hx hb d_M_seen_77 rfl ?_
              refine lv_istore (lv' := [(7, .int (zi 0)), (6, .int (zi 1)), (0, .ref (ad 0)), (1, .int (zi a)), (2, .int (zi b)), (3, .int (zi d)), (4, .int (zi t)), (5, .int (zi i))]) hx hb d_M_seen_78 hl (by decide) rfl (fun ls hl => ?_)
              have L_n2 : ∀ (z : Int → Int), (∀ (x : Int), zB 0 1 x → ∀ (ls : Array Slot) (H : Heap) (locs : List Loc) (k0 k1 k2 k3 : Int), zB (-115000) 115000 k0 → zB (-115000) 115000 k1 → zB (-115000) 115000 k2 → zB (-115000) 115000 k3 → va_P (dC, dI) classes (wM ad cI N k0 k1 k2 k3) H → va_S (zAM ad) s.heap H locs → z x = r → lv_has ls 8 [(0, .ref (ad 0)), (1, .int (zi a)), (2, .int (zi b)), (3, .int (zi d)), (4, .int (zi t)), (5, .int (zi i)), (6, .int (zi x))] → W p l e { frames := 2, cells := 0, slots := 0, locals := 60 } s m ([.ref (ad 0), .int (zi a), .int (zi b), .int (zi d)] : List Value).toArray below meth c H locs 0 0 (MQ below (zQ (some (.int (zi r))) (fun H => ∃ k0 k1 k2 k3 : Int, zB (-115000) 115000 k0 ∧ zB (-115000) 115000 k1 ∧ zB (-115000) 115000 k2 ∧ zB (-115000) 115000 k3 ∧ va_P (dC, dI) classes (wM ad cI N k0 k1 k2 k3) H) (zAM ad)) ([.ref (ad 0), .int (zi a), .int (zi b), .int (zi d)] : List Value).toArray s 0 0 (zAM ad)) (F0 m 145 ls [])) → ∀ (k : Nat) (x j : Int) (ls : Array Slot) (H : Heap) (locs : List Loc) (k0 k1 k2 k3 : Int), zB (-115000) 115000 k0 → zB (-115000) 115000 k1 → zB (-115000) 115000 k2 → zB (-115000) 115000 k3 → va_P (dC, dI) classes (wM ad cI N k0 k1 k2 k3) H → va_S (zAM ad) s.heap H locs → zB 0 1 x → zB 0 8 j → 8 - j < (k : Int) → f_M_seen_n2 N a b d t i z k x j = r → lv_has ls 8 [(0, .ref (ad 0)), (1, .int (zi a)), (2, .int (zi b)), (3, .int (zi d)), (4, .int (zi t)), (5, .int (zi i)), (6, .int (zi x)), (7, .int (zi j))] → W p l e { frames := 2, cells := 0, slots := 0, locals := 60 } s m ([.ref (ad 0), .int (zi a), .int (zi b), .int (zi d)] : List Value).toArray below meth c H locs 0 0 (MQ below (zQ (some (.int (zi r))) (fun H => ∃ k0 k1 k2 k3 : Int, zB (-115000) 115000 k0 ∧ zB (-115000) 115000 k1 ∧ zB (-115000) 115000 k2 ∧ zB (-115000) 115000 k3 ∧ va_P (dC, dI) classes (wM ad cI N k0 k1 k2 k3) H) (zAM ad)) ([.ref (ad 0), .int (zi a), .int (zi b), .int (zi d)] : List Value).toArray s 0 0 (zAM ad)) (F0 m 80 ls []) := by
                intro z hz k
                induction k with
                | zero =>
                  intro x j ls H locs k0 k1 k2 k3 hk0 hk1 hk2 hk3 hP hS hb_x hb_j  hk hq hl
                  exact absurd hk (by have := hb_x.1; have := hb_x.2; have := hb_j.1; have := hb_j.2; omega)
                | succ k ih =>
                  intro x j ls H locs k0 k1 k2 k3 hk0 hk1 hk2 hk3 hP hS hb_x hb_j  hk hq hl
                  obtain ⟨hl_x, hh_x⟩ := id hb_x
                  obtain ⟨hl_j, hh_j⟩ := id hb_j
                  replace hq := (f_M_seen_n2_s N a b d t i z k x j).symm.trans hq
                  refine lv_iload hx hb d_M_seen_80 (lv_at hl 7 rfl) ?_
                  refine lv_aload_n hx hb d_M_seen_82 rfl (lv_at hl 0 rfl) ?_
                  refine va_get (D := (dC, dI)) (ci := 2) (v := .int (zi (N 7 1))) (C := R_M) (T := T_M) (N := 17) hx hb hw i_M hown hK hP 0 rfl rfl 7 (by decide) (hw _ m_233) (fun _ h9 => h9) rfl d_M_seen_83 ?_
                  refine zr_icmp_ge (tgt := 145) hx hb (zB.I hb_j (by decide) (by decide)) (zB.I (jN_s1 hI) (by decide) (by decide)) d_M_seen_86 (by decide) (fun c_35 => ?_) (fun c_35 => ?_)
                  · replace hq := (if_neg c_35).symm.trans hq
                    exact hz x (zB.w hb_x (by decide) (by decide)) ls _ _ k0 k1 k2 k3 (zB.w hk0 (by decide) (by decide)) (zB.w hk1 (by decide) (by decide)) (zB.w hk2 (by decide) (by decide)) (zB.w hk3 (by decide) (by decide)) hP hS hq (lv_sub hl [0, 1, 2, 3, 4, 5, 6] rfl)
                  · replace hq := (if_pos c_35).symm.trans hq
                    refine lv_iload hx hb d_M_seen_89 (lv_at hl 6 rfl) ?_
                    refine zr_if_eq (tgt := 145) hx hb (zB.I hb_x (by decide) (by decide)) d_M_seen_91 (by decide) (fun c_36 => ?_) (fun c_36 => ?_)
                    · replace hq := (if_pos c_36).symm.trans hq
                      have r_37 : zB 0 0 x := ⟨(Int.le_of_eq c_36.symm), (Int.le_of_eq c_36)⟩
                      exact hz x (zB.w r_37 (by decide) (by decide)) ls _ _ k0 k1 k2 k3 (zB.w hk0 (by decide) (by decide)) (zB.w hk1 (by decide) (by decide)) (zB.w hk2 (by decide) (by decide)) (zB.w hk3 (by decide) (by decide)) hP hS hq (lv_sub hl [0, 1, 2, 3, 4, 5, 6] rfl)
                    · replace hq := (if_neg c_36).symm.trans hq
                      have r_38 : zB 1 1 x := ⟨(by have := hb_x.1; omega), hb_x.2⟩
                      refine lv_aload_n hx hb d_M_seen_94 rfl (lv_at hl 0 rfl) ?_
                      refine lv_iload hx hb d_M_seen_95 (lv_at hl 7 rfl) ?_
                      refine lv_aload_n hx hb d_M_seen_97 rfl (lv_at hl 0 rfl) ?_
                      refine va_get (D := (dC, dI)) (ci := 2) (v := .ref (ad 1)) (C := R_M) (T := T_M) (N := 17) hx hb hw i_M hown hK hP 0 rfl rfl 1 (by decide) (hw _ m_227) (fun _ h9 => h9) rfl d_M_seen_98 ?_
                      refine lv_iload hx hb d_M_seen_101 (lv_at hl 5 rfl) ?_
                      refine zr_iald hx hb hK hP 1 0 (cA := cI) (n := 60) (g := N 0) rfl rfl (i := i) (by omega) (by omega) (by decide) d_M_seen_103 ?_
                      refine lv_aload_n hx hb d_M_seen_104 rfl (lv_at hl 0 rfl) ?_
                      refine va_get (D := (dC, dI)) (ci := 2) (v := .ref (ad 2)) (C := R_M) (T := T_M) (N := 17) hx hb hw i_M hown hK hP 0 rfl rfl 2 (by decide) (hw _ m_228) (fun _ h9 => h9) rfl d_M_seen_105 ?_
                      refine lv_iload hx hb d_M_seen_108 (lv_at hl 5 rfl) ?_
                      refine zr_iald hx hb hK hP 2 0 (cA := cI) (n := 60) (g := N 1) rfl rfl (i := i) (by omega) (by omega) (by decide) d_M_seen_110 ?_
                      refine lv_aload_n hx hb d_M_seen_111 rfl (lv_at hl 0 rfl) ?_
                      refine va_get (D := (dC, dI)) (ci := 2) (v := .ref (ad 3)) (C := R_M) (T := T_M) (N := 17) hx hb hw i_M hown hK hP 0 rfl rfl 3 (by decide) (hw _ m_229) (fun _ h9 => h9) rfl d_M_seen_112 ?_
                      refine lv_iload hx hb d_M_seen_115 (lv_at hl 5 rfl) ?_
                      refine zr_iald hx hb hK hP 3 0 (cA := cI) (n := 60) (g := N 2) rfl rfl (i := i) (by omega) (by omega) (by decide) d_M_seen_117 ?_
                      refine lv_aload_n hx hb d_M_seen_118 rfl (lv_at hl 0 rfl) ?_
                      refine va_get (D := (dC, dI)) (ci := 2) (v := .int (zi (N 7 2))) (C := R_M) (T := T_M) (N := 17) hx hb hw i_M hown hK hP 0 rfl rfl 9 (by decide) (hw _ m_235) (fun _ h9 => h9) rfl d_M_seen_119 ?_
                      have b_39 : zB (-100000) 101000 ((N 2 i) + (N 7 2)) := zB.w (zb_add (jN_a2 hI i) (jN_s2 hI)) (by decide) (by decide)
                      refine zr_iadd hx hb d_M_seen_122 ?_
                      refine lv_iload_n hx hb d_M_seen_123 rfl (lv_at hl 1 rfl) ?_
                      refine lv_iload_n hx hb d_M_seen_124 rfl (lv_at hl 2 rfl) ?_
                      refine lv_iload_n hx hb d_M_seen_125 rfl (lv_at hl 3 rfl) ?_
                      refine zc_w (va_runV (As := [.int (zi j), .int (zi (N 0 i)), .int (zi (N 1 i)), .int (zi ((N 2 i) + (N 7 2))), .int (zi a), .int (zi b), .int (zi d)]) (rest := []) ⟨hx, hb, hml, hown, hts⟩ (k_M_isBoxed l dC dI ad cI N k0 k1 k2 k3 hI hj (zB.w hk0 (by decide) (by decide)) (zB.w hk1 (by decide) (by decide)) (zB.w hk2 (by decide) (by decide)) (zB.w hk3 (by decide) (by decide)) j (N 0 i) (N 1 i) ((N 2 i) + (N 7 2)) a b d ⟨by omega, by omega⟩ (zB.w (jN_a0 hI i) (by decide) (by decide)) (zB.w (jN_a1 hI i) (by decide) (by decide)) (zB.w b_39 (by decide) (by decide)) (zB.w g_4.1 (by decide) (by decide)) (zB.w g_4.2 (by decide) (by decide)) (zB.w g_7 (by decide) (by decide)) ) (zcV 7 hts m_311 m_3 m_309 m_310 m_398 rfl rfl q_M_isBoxed ⟨Nat.le_of_ble_eq_true rfl, Nat.le_of_ble_eq_true rfl⟩) (zpM0 hP hK [.int (zi j), .int (zi (N 0 i)), .int (zi (N 1 i)), .int (zi ((N 2 i) + (N 7 2))), .int (zi a), .int (zi b), .int (zi d)]) rfl rfl hl.1 rfl (lv_room (Nat.le_of_ble_eq_true rfl)) d_M_seen_126 ⟨Nat.zero_le _, Nat.zero_le _⟩) hS (fun q _ h => h) (fun q h => h) (fun H locs hP hz1 hk1 hS => ?_)
                      clear hz1 hk1
                      obtain ⟨k0_e_40, k1_e_40, k2_e_40, k3_e_40, hk0_e_40, hk1_e_40, hk2_e_40, hk3_e_40, hP⟩ := hP
                      refine zr_if_ne (tgt := 136) hx hb (zB.I (bb_M_isBoxed N j (N 0 i) (N 1 i) ((N 2 i) + (N 7 2)) a b d) (by decide) (by decide)) d_M_seen_129 (by decide) (fun c_41 => ?_) (fun c_41 => ?_)
                      · replace hq := (if_neg c_41).symm.trans hq
                        have r_42 : zB 1 1 (f_M_isBoxed N j (N 0 i) (N 1 i) ((N 2 i) + (N 7 2)) a b d) := ⟨(by have := (bb_M_isBoxed N j (N 0 i) (N 1 i) ((N 2 i) + (N 7 2)) a b d).1; omega), (bb_M_isBoxed N j (N 0 i) (N 1 i) ((N 2 i) + (N 7 2)) a b d).2⟩
                        refine lv_iconst (v := zi 0) hx hb d_M_seen_136 rfl ?_
                        refine lv_istore (lv' := [(6, .int (zi 0)), (0, .ref (ad 0)), (1, .int (zi a)), (2, .int (zi b)), (3, .int (zi d)), (4, .int (zi t)), (5, .int (zi i)), (7, .int (zi j))]) hx hb d_M_seen_137 hl (by decide) rfl (fun ls hl => ?_)
                        have b_43 : zB 1 9 (j + 1) := zB.w (zb_add hb_j (zb_c 1)) (by decide) (by decide)
                        refine lv_iinc (v := zi (j + 1)) (lv' := [(7, .int (zi (j + 1))), (6, .int (zi 0)), (0, .ref (ad 0)), (1, .int (zi a)), (2, .int (zi b)), (3, .int (zi d)), (4, .int (zi t)), (5, .int (zi i))]) hx hb d_M_seen_139 hl (k := 7) rfl (zi_add _ _) (by decide) rfl (fun ls hl => ?_)
                        refine lv_goto (tgt := 80) hx hb d_M_seen_142 (by decide) ?_
                        exact ih 0 (j + 1) ls _ _ k0_e_40 k1_e_40 k2_e_40 k3_e_40 (zB.w hk0_e_40 (by decide) (by decide)) (zB.w hk1_e_40 (by decide) (by decide)) (zB.w hk2_e_40 (by decide) (by decide)) (zB.w hk3_e_40 (by decide) (by decide)) hP hS (zB.w (zb_c 0) (by decide) (by decide)) ⟨by have h9 := b_43.1; have h8 := b_43.2; omega, by have h9 := b_43.1; have h8 := b_43.2; omega⟩  (by omega) hq (lv_sub hl [2, 3, 4, 5, 6, 7, 1, 0] rfl)
                      · replace hq := (if_pos c_41).symm.trans hq
                        have r_44 : zB 0 0 (f_M_isBoxed N j (N 0 i) (N 1 i) ((N 2 i) + (N 7 2)) a b d) := ⟨(Int.le_of_eq c_41.symm), (Int.le_of_eq c_41)⟩
                        refine lv_iconst (v := zi 1) hx hb d_M_seen_132 rfl ?_
                        refine lv_goto (tgt := 137) hx hb d_M_seen_133 (by decide) ?_
                        refine lv_istore (lv' := [(6, .int (zi 1)), (0, .ref (ad 0)), (1, .int (zi a)), (2, .int (zi b)), (3, .int (zi d)), (4, .int (zi t)), (5, .int (zi i)), (7, .int (zi j))]) hx hb d_M_seen_137 hl (by decide) rfl (fun ls hl => ?_)
                        have b_45 : zB 1 9 (j + 1) := zB.w (zb_add hb_j (zb_c 1)) (by decide) (by decide)
                        refine lv_iinc (v := zi (j + 1)) (lv' := [(7, .int (zi (j + 1))), (6, .int (zi 1)), (0, .ref (ad 0)), (1, .int (zi a)), (2, .int (zi b)), (3, .int (zi d)), (4, .int (zi t)), (5, .int (zi i))]) hx hb d_M_seen_139 hl (k := 7) rfl (zi_add _ _) (by decide) rfl (fun ls hl => ?_)
                        refine lv_goto (tgt := 80) hx hb d_M_seen_142 (by decide) ?_
                        exact ih 1 (j + 1) ls _ _ k0_e_40 k1_e_40 k2_e_40 k3_e_40 (zB.w hk0_e_40 (by decide) (by decide)) (zB.w hk1_e_40 (by decide) (by decide)) (zB.w hk2_e_40 (by decide) (by decide)) (zB.w hk3_e_40 (by decide) (by decide)) hP hS (zB.w (zb_c 1) (by decide) (by decide)) ⟨by have h9 := b_45.1; have h8 := b_45.2; omega, by have h9 := b_45.1; have h8 := b_45.2; omega⟩  (by omega) hq (lv_sub hl [2, 3, 4, 5, 6, 7, 1, 0] rfl)
              refine L_n2 _ (fun x hb_x ls H locs k0 k1 k2 k3 hk0 hk1 hk2 hk3 hP hS hq hl => ?_) 9 1 0 ls _ _ k0 k1 k2 k3 (zB.w hk0 (by decide) (by decide)) (zB.w hk1 (by decide) (by decide)) (zB.w hk2 (by decide) (by decide)) (zB.w hk3 (by decide) (by decide)) hP hS (zB.w (zb_c 1) (by decide) (by decide)) (zB.w (zb_c 0) (by decide) (by decide))  (by omega) hq (lv_sub hl [2, 3, 4, 5, 6, 7, 1, 0] rfl)
              obtain ⟨hl_x, hh_x⟩ := id hb_x
              refine lv_iload hx hb d_M_seen_145 (lv_at hl 4 rfl) ?_
              refine lv_iload hx hb d_M_seen_147 (lv_at hl 6 rfl) ?_
              refine zr_if_eq (tgt := 156) hx hb (zB.I hb_x (by decide) (by decide)) d_M_seen_149 (by decide) (fun c_46 => ?_) (fun c_46 => ?_)
              · replace hq := (if_pos c_46).symm.trans hq
                have r_47 : zB 0 0 x := ⟨(Int.le_of_eq c_46.symm), (Int.le_of_eq c_46)⟩
                refine lv_iconst (v := zi 0) hx hb d_M_seen_156 rfl ?_
                have b_48 : zB 0 60 (t + 0) := zB.w (zb_add hb_t (zb_c 0)) (by decide) (by decide)
                refine zr_iadd hx hb d_M_seen_157 ?_
                refine lv_istore (lv' := [(4, .int (zi (t + 0))), (0, .ref (ad 0)), (1, .int (zi a)), (2, .int (zi b)), (3, .int (zi d)), (5, .int (zi i)), (6, .int (zi x))]) hx hb d_M_seen_158 hl (by decide) rfl (fun ls hl => ?_)
                have b_49 : zB 1 61 (i + 1) := zB.w (zb_add hb_i (zb_c 1)) (by decide) (by decide)
                refine lv_iinc (v := zi (i + 1)) (lv' := [(5, .int (zi (i + 1))), (4, .int (zi (t + 0))), (0, .ref (ad 0)), (1, .int (zi a)), (2, .int (zi b)), (3, .int (zi d)), (6, .int (zi x))]) hx hb d_M_seen_160 hl (k := 5) rfl (zi_add _ _) (by decide) rfl (fun ls hl => ?_)
                refine lv_goto (tgt := 27) hx hb d_M_seen_163 (by decide) ?_
                exact ih (t + 0) (i + 1) ls _ _ k0 k1 k2 k3 (zB.w hk0 (by decide) (by decide)) (zB.w hk1 (by decide) (by decide)) (zB.w hk2 (by decide) (by decide)) (zB.w hk3 (by decide) (by decide)) hP hS (zB.w b_48 (by decide) (by decide)) ⟨by have h9 := b_49.1; have h8 := b_49.2; omega, by have h9 := b_49.1; have h8 := b_49.2; omega⟩ (by omega) (by omega) hq (lv_sub hl [2, 3, 4, 5, 1, 0] rfl)
              · replace hq := (if_neg c_46).symm.trans hq
                have r_50 : zB 1 1 x := ⟨(by have := hb_x.1; omega), hb_x.2⟩
                refine lv_iconst (v := zi 1) hx hb d_M_seen_152 rfl ?_
                refine lv_goto (tgt := 157) hx hb d_M_seen_153 (by decide) ?_
                have b_51 : zB 1 61 (t + 1) := zB.w (zb_add hb_t (zb_c 1)) (by decide) (by decide)
                refine zr_iadd hx hb d_M_seen_157 ?_
                refine lv_istore (lv' := [(4, .int (zi (t + 1))), (0, .ref (ad 0)), (1, .int (zi a)), (2, .int (zi b)), (3, .int (zi d)), (5, .int (zi i)), (6, .int (zi x))]) hx hb d_M_seen_158 hl (by decide) rfl (fun ls hl => ?_)
                have b_52 : zB 1 61 (i + 1) := zB.w (zb_add hb_i (zb_c 1)) (by decide) (by decide)
                refine lv_iinc (v := zi (i + 1)) (lv' := [(5, .int (zi (i + 1))), (4, .int (zi (t + 1))), (0, .ref (ad 0)), (1, .int (zi a)), (2, .int (zi b)), (3, .int (zi d)), (6, .int (zi x))]) hx hb d_M_seen_160 hl (k := 5) rfl (zi_add _ _) (by decide) rfl (fun ls hl => ?_)
                refine lv_goto (tgt := 27) hx hb d_M_seen_163 (by decide) ?_
                exact ih (t + 1) (i + 1) ls _ _ k0 k1 k2 k3 (zB.w hk0 (by decide) (by decide)) (zB.w hk1 (by decide) (by decide)) (zB.w hk2 (by decide) (by decide)) (zB.w hk3 (by decide) (by decide)) hP hS ⟨by have h9 := b_51.1; have h8 := b_51.2; omega, by have h9 := b_51.1; have h8 := b_51.2; omega⟩ ⟨by have h9 := b_52.1; have h8 := b_52.2; omega, by have h9 := b_52.1; have h8 := b_52.2; omega⟩ (by omega) (by omega) hq (lv_sub hl [2, 3, 4, 5, 1, 0] rfl)
      refine L_o _ (fun t hb_t ls H locs k0 k1 k2 k3 hk0 hk1 hk2 hk3 hP hS hq hl => ?_) 61 0 0 ls _ _ k0 k1 k2 k3 (zB.w hb_k0 (by decide) (by decide)) (zB.w hb_k1 (by decide) (by decide)) (zB.w hb_k2 (by decide) (by decide)) (zB.w hb_k3 (by decide) (by decide)) hP hS (zB.w (zb_c 0) (by decide) (by decide)) (zB.w (zb_c 0) (by decide) (by decide)) (by omega) (by omega) hq (lv_sub hl [2, 3, 4, 5, 1, 0] rfl)
      obtain ⟨hl_t, hh_t⟩ := id hb_t
      refine lv_iload hx hb d_M_seen_166 (lv_at hl 4 rfl) ?_
      exact zw_i hx hb hr hlocks hq ⟨k0, k1, k2, k3, zB.w hk0 (by decide) (by decide), zB.w hk1 (by decide) (by decide), zB.w hk2 (by decide) (by decide), zB.w hk3 (by decide) (by decide), hP⟩ hS d_M_seen_168
    · replace hq := (if_pos c_5).symm.trans hq
      have r_53 : zB 0 0 (f_M_within d (-100000) 100000) := ⟨(Int.le_of_eq c_5.symm), (Int.le_of_eq c_5)⟩
      refine lv_iconst (v := zi (-1)) hx hb d_M_seen_19 rfl ?_
      exact zw_i hx hb hr hlocks hq ⟨k0, k1, k2, k3, zB.w hb_k0 (by decide) (by decide), zB.w hb_k1 (by decide) (by decide), zB.w hb_k2 (by decide) (by decide), zB.w hb_k3 (by decide) (by decide), hP⟩ hS d_M_seen_20
def f_M_light_l (N : Nat → Int → Int) (a : Int) (b : Int) (d : Int) (z : Int → Int) : Nat → Int → Int
  | 0, _ => 0
  | k + 1, t => if (t + 1) < (N 7 0) then (if (((N 2 a) + b) + (Int.tdiv (d * ((N 3 (t + 1)) - (N 3 a))) 100)) < (N 2 (t + 1)) then (z t) else (f_M_light_l N a b d z k (t + 1))) else (z t)
theorem f_M_light_l_s (N : Nat → Int → Int) (a : Int) (b : Int) (d : Int) (z : Int → Int) (k : Nat) (t : Int) : f_M_light_l N a b d z (k + 1) t = (if (t + 1) < (N 7 0) then (if (((N 2 a) + b) + (Int.tdiv (d * ((N 3 (t + 1)) - (N 3 a))) 100)) < (N 2 (t + 1)) then (z t) else (f_M_light_l N a b d z k (t + 1))) else (z t)) := rfl
def f_M_light (N : Nat → Int → Int) (a b d : Int) : Int := if (f_M_isStation N a) = 0 then (-1) else (if (f_M_within b 0 1000) = 0 then (-1) else (if (f_M_within d 0 100) = 0 then (-1) else (f_M_light_l N a b d (fun t => (N 3 t) - (N 3 a)) 61 a)))
set_option maxHeartbeats 4000000 in
set_option maxRecDepth 100000 in
theorem k_M_light (l : Launch) (dC : Nat → ClassId) (dI : Nat → Nat → Nat) (ad : Nat → Nat) (cI : ClassId) (N : Nat → Int → Int) (k0 k1 k2 k3 : Int) (hI : jN N) (a b d : Int) (hb_a : zB (-2147483648) 2147483647 a) (hb_b : zB (-2147483648) 2147483647 b) (hb_d : zB (-2147483648) 2147483647 d) : Met l y_M_light (Cond.code y_M_light c_M_light 5 (some .int) :: zT) { frames := 1, cells := 0, slots := 0, locals := 22 } (va_Pc ([.ref (ad 0), .int (zi a), .int (zi b), .int (zi d)] : List Value) (zWM dC dI ad cI N k0 k1 k2 k3)) (zR (.int (zi (f_M_light N a b d)))) 0 0 (fun _ => False) := by
  refine zh (cc := c_M_light) (C := R_M) (by decide) rfl rfl (Nat.le_of_ble_eq_true rfl) ?_
  intro p e s m below meth c ls hx hb hr hlocks hml hown hname hts hl hB
  have hw : ∀ w9 ∈ zT, w9.before ([.ref (ad 0), .int (zi a), .int (zi b), .int (zi d)] : List Value).toArray s = true := fun w9 h => hts w9 (List.mem_cons_of_mem _ h)
  obtain ⟨hP, hK⟩ := hB
  obtain ⟨hn0, hn1⟩ := id (jN_s0 hI)
  obtain ⟨hz0, hz1⟩ := id (jN_s1 hI)
  obtain ⟨hl_a, hh_a⟩ := id hb_a
  obtain ⟨hl_b, hh_b⟩ := id hb_b
  obtain ⟨hl_d, hh_d⟩ := id hb_d
  generalize hq : f_M_light N a b d = r
  unfold f_M_light at hq
  replace hl : lv_has ls 5 [(0, .ref (ad 0)), (1, .int (zi a)), (2, .int (zi b)), (3, .int (zi d))] := hl
  refine lv_aload_n hx hb d_M_light_0 rfl (lv_at hl 0 rfl) ?_
  refine lv_iload_n hx hb d_M_light_1 rfl (lv_at hl 1 rfl) ?_
  refine zc_n (va_runV (As := [.int (zi a)]) (rest := []) ⟨hx, hb, hml, hown, hts⟩ (k_M_isStation l dC dI ad cI N k0 k1 k2 k3 hI a (zB.w hb_a (by decide) (by decide)) ) (zcV 1 hts m_273 m_3 m_271 m_272 m_392 rfl rfl q_M_isStation ⟨Nat.le_of_ble_eq_true rfl, Nat.le_of_ble_eq_true rfl⟩) (zpM0 hP hK [.int (zi a)]) rfl rfl hl.1 rfl (lv_room (Nat.le_of_ble_eq_true rfl)) d_M_light_2 ⟨Nat.zero_le _, Nat.zero_le _⟩) ?_
  refine zr_if_eq (tgt := 29) hx hb (zB.I (bb_M_isStation N a) (by decide) (by decide)) d_M_light_5 (by decide) (fun c_1 => ?_) (fun c_1 => ?_)
  · replace hq := (if_pos c_1).symm.trans hq
    have r_2 : zB 0 0 (f_M_isStation N a) := ⟨(Int.le_of_eq c_1.symm), (Int.le_of_eq c_1)⟩
    refine lv_iconst (v := zi (-1)) hx hb d_M_light_29 rfl ?_
    exact ze_i hx hb hr hlocks hq d_M_light_30
  · replace hq := (if_neg c_1).symm.trans hq
    have r_3 : zB 1 1 (f_M_isStation N a) := ⟨(by have := (bb_M_isStation N a).1; omega), (bb_M_isStation N a).2⟩
    have g_4 := gf_M_isStation hI c_1
    obtain ⟨g_4l, g_4h⟩ := id g_4.1
    have g_4n := g_4.2
    refine lv_iload_n hx hb d_M_light_8 rfl (lv_at hl 2 rfl) ?_
    refine lv_iconst (v := zi 0) hx hb d_M_light_9 rfl ?_
    refine lv_sipush (v := zi 1000) hx hb d_M_light_10 (by decide) ?_
    refine zc_n (va_runS (As := [.int (zi b), .int (zi 0), .int (zi 1000)]) (rest := []) ⟨hx, hb, hml, hown, hts⟩ (k_M_within l b 0 1000 (zB.w hb_b (by decide) (by decide)) (zB.w (zb_c 0) (by decide) (by decide)) (zB.w (zb_c 1000) (by decide) (by decide)) ) (zcS 3 hts m_252 m_3 m_250 m_251 rfl rfl q_M_within ⟨Nat.le_of_ble_eq_true rfl, Nat.le_of_ble_eq_true rfl⟩) (zp0 [.int (zi b), .int (zi 0), .int (zi 1000)]) rfl rfl hl.1 rfl (lv_room (Nat.le_of_ble_eq_true rfl)) d_M_light_13 ⟨Nat.zero_le _, Nat.zero_le _⟩) ?_
    refine zr_if_eq (tgt := 29) hx hb (zB.I (bb_M_within b 0 1000) (by decide) (by decide)) d_M_light_16 (by decide) (fun c_5 => ?_) (fun c_5 => ?_)
    · replace hq := (if_pos c_5).symm.trans hq
      have r_6 : zB 0 0 (f_M_within b 0 1000) := ⟨(Int.le_of_eq c_5.symm), (Int.le_of_eq c_5)⟩
      refine lv_iconst (v := zi (-1)) hx hb d_M_light_29 rfl ?_
      exact ze_i hx hb hr hlocks hq d_M_light_30
    · replace hq := (if_neg c_5).symm.trans hq
      have r_7 : zB 1 1 (f_M_within b 0 1000) := ⟨(by have := (bb_M_within b 0 1000).1; omega), (bb_M_within b 0 1000).2⟩
      have g_8 := gf_M_within c_5
      obtain ⟨g_8l, g_8h⟩ := id g_8
      refine lv_iload_n hx hb d_M_light_19 rfl (lv_at hl 3 rfl) ?_
      refine lv_iconst (v := zi 0) hx hb d_M_light_20 rfl ?_
      refine lv_bipush (v := zi 100) hx hb d_M_light_21 (by decide) ?_
      refine zc_n (va_runS (As := [.int (zi d), .int (zi 0), .int (zi 100)]) (rest := []) ⟨hx, hb, hml, hown, hts⟩ (k_M_within l d 0 100 (zB.w hb_d (by decide) (by decide)) (zB.w (zb_c 0) (by decide) (by decide)) (zB.w (zb_c 100) (by decide) (by decide)) ) (zcS 3 hts m_252 m_3 m_250 m_251 rfl rfl q_M_within ⟨Nat.le_of_ble_eq_true rfl, Nat.le_of_ble_eq_true rfl⟩) (zp0 [.int (zi d), .int (zi 0), .int (zi 100)]) rfl rfl hl.1 rfl (lv_room (Nat.le_of_ble_eq_true rfl)) d_M_light_23 ⟨Nat.zero_le _, Nat.zero_le _⟩) ?_
      refine zr_if_ne (tgt := 31) hx hb (zB.I (bb_M_within d 0 100) (by decide) (by decide)) d_M_light_26 (by decide) (fun c_9 => ?_) (fun c_9 => ?_)
      · replace hq := (if_neg c_9).symm.trans hq
        have r_10 : zB 1 1 (f_M_within d 0 100) := ⟨(by have := (bb_M_within d 0 100).1; omega), (bb_M_within d 0 100).2⟩
        have g_11 := gf_M_within c_9
        obtain ⟨g_11l, g_11h⟩ := id g_11
        refine lv_iload_n hx hb d_M_light_31 rfl (lv_at hl 1 rfl) ?_
        refine lv_istore (lv' := [(4, .int (zi a)), (0, .ref (ad 0)), (1, .int (zi a)), (2, .int (zi b)), (3, .int (zi d))]) hx hb d_M_light_32 hl (by decide) rfl (fun ls hl => ?_)
        have L_l : ∀ (z : Int → Int), (∀ (t : Int), zB 0 59 t → ∀ (ls : Array Slot), z t = r → lv_has ls 5 [(0, .ref (ad 0)), (1, .int (zi a)), (2, .int (zi b)), (3, .int (zi d)), (4, .int (zi t))] → W p l e { frames := 1, cells := 0, slots := 0, locals := 22 } s m ([.ref (ad 0), .int (zi a), .int (zi b), .int (zi d)] : List Value).toArray below meth c s.heap [] 0 0 (MQ below (zR (.int (zi r))) ([.ref (ad 0), .int (zi a), .int (zi b), .int (zi d)] : List Value).toArray s 0 0 (fun _ => False)) (F0 m 93 ls [])) → ∀ (k : Nat) (t : Int) (ls : Array Slot), zB 0 59 t → t < N 7 0 → 60 - t < (k : Int) → f_M_light_l N a b d z k t = r → lv_has ls 5 [(0, .ref (ad 0)), (1, .int (zi a)), (2, .int (zi b)), (3, .int (zi d)), (4, .int (zi t))] → W p l e { frames := 1, cells := 0, slots := 0, locals := 22 } s m ([.ref (ad 0), .int (zi a), .int (zi b), .int (zi d)] : List Value).toArray below meth c s.heap [] 0 0 (MQ below (zR (.int (zi r))) ([.ref (ad 0), .int (zi a), .int (zi b), .int (zi d)] : List Value).toArray s 0 0 (fun _ => False)) (F0 m 34 ls []) := by
          intro z hz k
          induction k with
          | zero =>
            intro t ls hb_t hi_0 hk hq hl
            exact absurd hk (by have := hb_t.1; have := hb_t.2; omega)
          | succ k ih =>
            intro t ls hb_t hi_0 hk hq hl
            obtain ⟨hl_t, hh_t⟩ := id hb_t
            replace hq := (f_M_light_l_s N a b d z k t).symm.trans hq
            refine lv_iload hx hb d_M_light_34 (lv_at hl 4 rfl) ?_
            refine lv_iconst (v := zi 1) hx hb d_M_light_36 rfl ?_
            have b_12 : zB 1 60 (t + 1) := zB.w (zb_add hb_t (zb_c 1)) (by decide) (by decide)
            refine zr_iadd hx hb d_M_light_37 ?_
            refine lv_aload_n hx hb d_M_light_38 rfl (lv_at hl 0 rfl) ?_
            refine va_get (D := (dC, dI)) (ci := 2) (v := .int (zi (N 7 0))) (C := R_M) (T := T_M) (N := 17) hx hb hw i_M hown hK hP 0 rfl rfl 0 (by decide) (hw _ m_226) (fun _ h9 => h9) rfl d_M_light_39 ?_
            refine zr_icmp_ge (tgt := 93) hx hb (zB.I b_12 (by decide) (by decide)) (zB.I (jN_s0 hI) (by decide) (by decide)) d_M_light_42 (by decide) (fun c_13 => ?_) (fun c_13 => ?_)
            · replace hq := (if_neg c_13).symm.trans hq
              exact hz t (zB.w hb_t (by decide) (by decide)) ls hq (lv_sub hl [0, 1, 2, 3, 4] rfl)
            · replace hq := (if_pos c_13).symm.trans hq
              refine lv_aload_n hx hb d_M_light_45 rfl (lv_at hl 0 rfl) ?_
              refine va_get (D := (dC, dI)) (ci := 2) (v := .ref (ad 3)) (C := R_M) (T := T_M) (N := 17) hx hb hw i_M hown hK hP 0 rfl rfl 3 (by decide) (hw _ m_229) (fun _ h9 => h9) rfl d_M_light_46 ?_
              refine lv_iload hx hb d_M_light_49 (lv_at hl 4 rfl) ?_
              refine lv_iconst (v := zi 1) hx hb d_M_light_51 rfl ?_
              refine zr_iadd hx hb d_M_light_52 ?_
              refine zr_iald hx hb hK hP 3 0 (cA := cI) (n := 60) (g := N 2) rfl rfl (i := t + 1) (by omega) (by omega) (by decide) d_M_light_53 ?_
              refine lv_aload_n hx hb d_M_light_54 rfl (lv_at hl 0 rfl) ?_
              refine va_get (D := (dC, dI)) (ci := 2) (v := .ref (ad 3)) (C := R_M) (T := T_M) (N := 17) hx hb hw i_M hown hK hP 0 rfl rfl 3 (by decide) (hw _ m_229) (fun _ h9 => h9) rfl d_M_light_55 ?_
              refine lv_iload_n hx hb d_M_light_58 rfl (lv_at hl 1 rfl) ?_
              refine zr_iald hx hb hK hP 3 0 (cA := cI) (n := 60) (g := N 2) rfl rfl (i := a) (by omega) (by omega) (by decide) d_M_light_59 ?_
              refine lv_iload_n hx hb d_M_light_60 rfl (lv_at hl 2 rfl) ?_
              have b_14 : zB (-100000) 101000 ((N 2 a) + b) := zB.w (zb_add (jN_a2 hI a) g_8) (by decide) (by decide)
              refine zr_iadd hx hb d_M_light_61 ?_
              refine lv_iload_n hx hb d_M_light_62 rfl (lv_at hl 3 rfl) ?_
              refine lv_aload_n hx hb d_M_light_63 rfl (lv_at hl 0 rfl) ?_
              refine va_get (D := (dC, dI)) (ci := 2) (v := .ref (ad 4)) (C := R_M) (T := T_M) (N := 17) hx hb hw i_M hown hK hP 0 rfl rfl 4 (by decide) (hw _ m_230) (fun _ h9 => h9) rfl d_M_light_64 ?_
              refine lv_iload hx hb d_M_light_67 (lv_at hl 4 rfl) ?_
              refine lv_iconst (v := zi 1) hx hb d_M_light_69 rfl ?_
              refine zr_iadd hx hb d_M_light_70 ?_
              refine zr_iald hx hb hK hP 4 0 (cA := cI) (n := 60) (g := N 3) rfl rfl (i := t + 1) (by omega) (by omega) (by decide) d_M_light_71 ?_
              refine lv_aload_n hx hb d_M_light_72 rfl (lv_at hl 0 rfl) ?_
              refine va_get (D := (dC, dI)) (ci := 2) (v := .ref (ad 4)) (C := R_M) (T := T_M) (N := 17) hx hb hw i_M hown hK hP 0 rfl rfl 4 (by decide) (hw _ m_230) (fun _ h9 => h9) rfl d_M_light_73 ?_
              refine lv_iload_n hx hb d_M_light_76 rfl (lv_at hl 1 rfl) ?_
              refine zr_iald hx hb hK hP 4 0 (cA := cI) (n := 60) (g := N 3) rfl rfl (i := a) (by omega) (by omega) (by decide) d_M_light_77 ?_
              have b_15 : zB (-2545620) 2545620 ((N 3 (t + 1)) - (N 3 a)) := zB.w (zb_sub (jN_a3 hI (t + 1)) (jN_a3 hI a)) (by decide) (by decide)
              refine zr_isub hx hb d_M_light_78 ?_
              have b_16 : zB (-254562000) 254562000 (d * ((N 3 (t + 1)) - (N 3 a))) := zB.w (zb_mul (A := 100) (B := 2545620) (zB.w g_11 (by decide) (by decide)) (zB.w b_15 (by decide) (by decide))) (by decide) (by decide)
              refine zr_imul hx hb d_M_light_79 ?_
              refine lv_bipush (v := zi 100) hx hb d_M_light_80 (by decide) ?_
              refine zr_idiv hx hb (zB.I b_16 (by decide) (by decide)) (zB.I (zb_c 100) (by decide) (by decide)) (Int.lt_of_lt_of_le (by decide) (zb_c 100).1) d_M_light_82 ?_
              have b_17 : zB (-254562000) 254562000 (Int.tdiv (d * ((N 3 (t + 1)) - (N 3 a))) 100) := zB.w (zb_tdiv (A := 254562000) (b := 100) (zB.w b_16 (by decide) (by decide))) (by decide) (by decide)
              have b_18 : zB (-254662000) 254663000 (((N 2 a) + b) + (Int.tdiv (d * ((N 3 (t + 1)) - (N 3 a))) 100)) := zB.w (zb_add b_14 b_17) (by decide) (by decide)
              refine zr_iadd hx hb d_M_light_83 ?_
              refine zr_icmp_gt (tgt := 93) hx hb (zB.I (jN_a2 hI (t + 1)) (by decide) (by decide)) (zB.I b_18 (by decide) (by decide)) d_M_light_84 (by decide) (fun c_19 => ?_) (fun c_19 => ?_)
              · replace hq := (if_pos c_19).symm.trans hq
                exact hz t (zB.w hb_t (by decide) (by decide)) ls hq (lv_sub hl [0, 1, 2, 3, 4] rfl)
              · replace hq := (if_neg c_19).symm.trans hq
                refine lv_iinc (v := zi (t + 1)) (lv' := [(4, .int (zi (t + 1))), (0, .ref (ad 0)), (1, .int (zi a)), (2, .int (zi b)), (3, .int (zi d))]) hx hb d_M_light_87 hl (k := 4) rfl (zi_add _ _) (by decide) rfl (fun ls hl => ?_)
                refine lv_goto (tgt := 34) hx hb d_M_light_90 (by decide) ?_
                exact ih (t + 1) ls ⟨by have h9 := b_12.1; have h8 := b_12.2; omega, by have h9 := b_12.1; have h8 := b_12.2; omega⟩ (by omega) (by omega) hq (lv_sub hl [1, 2, 3, 4, 0] rfl)
        refine L_l _ (fun t hb_t ls hq hl => ?_) 61 a ls (zB.w g_4.1 (by decide) (by decide)) (by omega) (by omega) hq (lv_sub hl [1, 2, 3, 4, 0] rfl)
        obtain ⟨hl_t, hh_t⟩ := id hb_t
        refine lv_aload_n hx hb d_M_light_93 rfl (lv_at hl 0 rfl) ?_
        refine va_get (D := (dC, dI)) (ci := 2) (v := .ref (ad 4)) (C := R_M) (T := T_M) (N := 17) hx hb hw i_M hown hK hP 0 rfl rfl 4 (by decide) (hw _ m_230) (fun _ h9 => h9) rfl d_M_light_94 ?_
        refine lv_iload hx hb d_M_light_97 (lv_at hl 4 rfl) ?_
        refine zr_iald hx hb hK hP 4 0 (cA := cI) (n := 60) (g := N 3) rfl rfl (i := t) (by omega) (by omega) (by decide) d_M_light_99 ?_
        refine lv_aload_n hx hb d_M_light_100 rfl (lv_at hl 0 rfl) ?_
        refine va_get (D := (dC, dI)) (ci := 2) (v := .ref (ad 4)) (C := R_M) (T := T_M) (N := 17) hx hb hw i_M hown hK hP 0 rfl rfl 4 (by decide) (hw _ m_230) (fun _ h9 => h9) rfl d_M_light_101 ?_
        refine lv_iload_n hx hb d_M_light_104 rfl (lv_at hl 1 rfl) ?_
        refine zr_iald hx hb hK hP 4 0 (cA := cI) (n := 60) (g := N 3) rfl rfl (i := a) (by omega) (by omega) (by decide) d_M_light_105 ?_
        have b_20 : zB (-2545620) 2545620 ((N 3 t) - (N 3 a)) := zB.w (zb_sub (jN_a3 hI t) (jN_a3 hI a)) (by decide) (by decide)
        refine zr_isub hx hb d_M_light_106 ?_
        exact ze_i hx hb hr hlocks hq d_M_light_107
      · replace hq := (if_pos c_9).symm.trans hq
        have r_21 : zB 0 0 (f_M_within d 0 100) := ⟨(Int.le_of_eq c_9.symm), (Int.le_of_eq c_9)⟩
        refine lv_iconst (v := zi (-1)) hx hb d_M_light_29 rfl ?_
        exact ze_i hx hb hr hlocks hq d_M_light_30
def f_M_count_t (N : Nat → Int → Int) (a : Int) (z : Int → Int) : Nat → Int → Int → Int
  | 0, _, _ => 0
  | k + 1, w, i => if i < (2 * (N 7 0)) then (if (N 5 i) < 0 then (f_M_count_t N a z k (w + 0) (i + 1)) else (f_M_count_t N a z k (w + 1) (i + 1))) else (z w)
theorem f_M_count_t_s (N : Nat → Int → Int) (a : Int) (z : Int → Int) (k : Nat) (w i : Int) : f_M_count_t N a z (k + 1) w i = (if i < (2 * (N 7 0)) then (if (N 5 i) < 0 then (f_M_count_t N a z k (w + 0) (i + 1)) else (f_M_count_t N a z k (w + 1) (i + 1))) else (z w)) := rfl
def f_M_count_n (N : Nat → Int → Int) (a : Int) (w : Int) (i : Int) (z : Int → Int) : Nat → Int → Int → Int
  | 0, _, _ => 0
  | k + 1, u, j => if j < i then (if (f_M_interrupter N j i) = 0 then (f_M_count_n N a w i z k (u + 1) (j + 1)) else (f_M_count_n N a w i z k (u + 0) (j + 1))) else (z u)
theorem f_M_count_n_s (N : Nat → Int → Int) (a : Int) (w : Int) (i : Int) (z : Int → Int) (k : Nat) (u j : Int) : f_M_count_n N a w i z (k + 1) u j = (if j < i then (if (f_M_interrupter N j i) = 0 then (f_M_count_n N a w i z k (u + 1) (j + 1)) else (f_M_count_n N a w i z k (u + 0) (j + 1))) else (z u)) := rfl
def f_M_count_o (N : Nat → Int → Int) (a : Int) (z : Int → Int) : Nat → Int → Int → Int
  | 0, _, _ => 0
  | k + 1, w, i => if i < (N 7 0) then (f_M_count_n N a w i (fun u => f_M_count_o N a z k u (i + 1)) 61 w 0) else (z w)
theorem f_M_count_o_s (N : Nat → Int → Int) (a : Int) (z : Int → Int) (k : Nat) (w i : Int) : f_M_count_o N a z (k + 1) w i = (if i < (N 7 0) then (f_M_count_n N a w i (fun u => f_M_count_o N a z k u (i + 1)) 61 w 0) else (z w)) := rfl
def f_M_count_d (N : Nat → Int → Int) (a : Int) (z : Int → Int) : Nat → Int → Int → Int
  | 0, _, _ => 0
  | k + 1, w, i => if i < (N 7 0) then (if (f_M_isBlind N i 0) = 0 then (f_M_count_d N a z k (w + 0) (i + 1)) else (f_M_count_d N a z k (w + 1) (i + 1))) else (z w)
theorem f_M_count_d_s (N : Nat → Int → Int) (a : Int) (z : Int → Int) (k : Nat) (w i : Int) : f_M_count_d N a z (k + 1) w i = (if i < (N 7 0) then (if (f_M_isBlind N i 0) = 0 then (f_M_count_d N a z k (w + 0) (i + 1)) else (f_M_count_d N a z k (w + 1) (i + 1))) else (z w)) := rfl
def f_M_count_d2 (N : Nat → Int → Int) (a : Int) (z : Int → Int) : Nat → Int → Int → Int
  | 0, _, _ => 0
  | k + 1, w, i => if i < (N 7 0) then (if (f_M_isBlind N i 1) = 0 then (f_M_count_d2 N a z k (w + 0) (i + 1)) else (f_M_count_d2 N a z k (w + 1) (i + 1))) else (z w)
theorem f_M_count_d2_s (N : Nat → Int → Int) (a : Int) (z : Int → Int) (k : Nat) (w i : Int) : f_M_count_d2 N a z (k + 1) w i = (if i < (N 7 0) then (if (f_M_isBlind N i 1) = 0 then (f_M_count_d2 N a z k (w + 0) (i + 1)) else (f_M_count_d2 N a z k (w + 1) (i + 1))) else (z w)) := rfl
def f_M_count (N : Nat → Int → Int) (a : Int) : Int := if a = 0 then (N 7 0) else (if a = 1 then (N 7 1) else (if a = 2 then (f_M_count_t N a (fun w => w) 121 0 0) else (if a = 3 then (f_M_count_o N a (fun w => w) 61 0 0) else (if a = 4 then (f_M_count_d N a (fun w => w) 61 0 0) else (if a = 5 then (f_M_count_d2 N a (fun w => w) 61 0 0) else (-1))))))
set_option maxHeartbeats 4000000 in
set_option maxRecDepth 100000 in
theorem k_M_count (l : Launch) (dC : Nat → ClassId) (dI : Nat → Nat → Nat) (ad : Nat → Nat) (cI : ClassId) (N : Nat → Int → Int) (k0 k1 k2 k3 : Int) (hI : jN N) (hj : zJ 8 ad) (hb_k0 : zB (-115000) 115000 k0) (hb_k1 : zB (-115000) 115000 k1) (hb_k2 : zB (-115000) 115000 k2) (hb_k3 : zB (-115000) 115000 k3) (a : Int) (hb_a : zB (-2147483648) 2147483647 a) : Met l y_M_count (Cond.code y_M_count c_M_count 5 (some .int) :: zT) { frames := 6, cells := 0, slots := 0, locals := 143 } (va_Pc ([.ref (ad 0), .int (zi a)] : List Value) (zWM dC dI ad cI N k0 k1 k2 k3)) (zQ (some (.int (zi (f_M_count N a)))) (fun H => ∃ k0 k1 k2 k3 : Int, zB (-115000) 115000 k0 ∧ zB (-115000) 115000 k1 ∧ zB (-115000) 115000 k2 ∧ zB (-115000) 115000 k3 ∧ va_P (dC, dI) classes (wM ad cI N k0 k1 k2 k3) H) (zAM ad)) 0 0 (zAM ad) := by
  refine zh (cc := c_M_count) (C := R_M) (by decide) rfl rfl (Nat.le_of_ble_eq_true rfl) ?_
  intro p e s m below meth c ls hx hb hr hlocks hml hown hname hts hl hB
  have hw : ∀ w9 ∈ zT, w9.before ([.ref (ad 0), .int (zi a)] : List Value).toArray s = true := fun w9 h => hts w9 (List.mem_cons_of_mem _ h)
  obtain ⟨hP, hK⟩ := hB
  obtain ⟨hn0, hn1⟩ := id (jN_s0 hI)
  have hD := zDM hj cI
  have hS : va_S (zAM ad) s.heap s.heap [] := va_S.rf
  obtain ⟨hz0, hz1⟩ := id (jN_s1 hI)
  obtain ⟨hl_a, hh_a⟩ := id hb_a
  generalize hq : f_M_count N a = r
  unfold f_M_count at hq
  replace hl : lv_has ls 5 [(0, .ref (ad 0)), (1, .int (zi a))] := hl
  refine lv_iconst (v := zi 0) hx hb d_M_count_0 rfl ?_
  refine lv_istore_n (lv' := [(2, .int (zi 0)), (0, .ref (ad 0)), (1, .int (zi a))]) hx hb d_M_count_1 rfl hl (by decide) rfl (fun ls hl => ?_)
  refine lv_iload_n hx hb d_M_count_2 rfl (lv_at hl 2 rfl) ?_
  by_cases c_1 : a = 0
  · replace hq := (if_pos c_1).symm.trans hq
    refine lv_tableIn (tgt := 40) (off := 37) hx hb d_M_count_3 (by rw [zi_t (zB.I hb_a (by decide) (by decide))]; omega) (by rw [zi_t (zB.I hb_a (by decide) (by decide))]; omega) (by rw [zi_t (zB.I hb_a (by decide) (by decide)), c_1]; rfl) (by decide) ?_
    refine lv_aload_n hx hb d_M_count_40 rfl (lv_at hl 1 rfl) ?_
    refine va_get (D := (dC, dI)) (ci := 2) (v := .int (zi (N 7 0))) (C := R_M) (T := T_M) (N := 17) hx hb hw i_M hown hK hP 0 rfl rfl 0 (by decide) (hw _ m_226) (fun _ h9 => h9) rfl d_M_count_41 ?_
    exact zw_i hx hb hr hlocks hq ⟨k0, k1, k2, k3, zB.w hb_k0 (by decide) (by decide), zB.w hb_k1 (by decide) (by decide), zB.w hb_k2 (by decide) (by decide), zB.w hb_k3 (by decide) (by decide), hP⟩ hS d_M_count_44
  · replace hq := (if_neg c_1).symm.trans hq
    by_cases c_2 : a = 1
    · replace hq := (if_pos c_2).symm.trans hq
      refine lv_tableIn (tgt := 45) (off := 42) hx hb d_M_count_3 (by rw [zi_t (zB.I hb_a (by decide) (by decide))]; omega) (by rw [zi_t (zB.I hb_a (by decide) (by decide))]; omega) (by rw [zi_t (zB.I hb_a (by decide) (by decide)), c_2]; rfl) (by decide) ?_
      refine lv_aload_n hx hb d_M_count_45 rfl (lv_at hl 1 rfl) ?_
      refine va_get (D := (dC, dI)) (ci := 2) (v := .int (zi (N 7 1))) (C := R_M) (T := T_M) (N := 17) hx hb hw i_M hown hK hP 0 rfl rfl 7 (by decide) (hw _ m_233) (fun _ h9 => h9) rfl d_M_count_46 ?_
      exact zw_i hx hb hr hlocks hq ⟨k0, k1, k2, k3, zB.w hb_k0 (by decide) (by decide), zB.w hb_k1 (by decide) (by decide), zB.w hb_k2 (by decide) (by decide), zB.w hb_k3 (by decide) (by decide), hP⟩ hS d_M_count_49
    · replace hq := (if_neg c_2).symm.trans hq
      by_cases c_3 : a = 2
      · replace hq := (if_pos c_3).symm.trans hq
        refine lv_tableIn (tgt := 50) (off := 47) hx hb d_M_count_3 (by rw [zi_t (zB.I hb_a (by decide) (by decide))]; omega) (by rw [zi_t (zB.I hb_a (by decide) (by decide))]; omega) (by rw [zi_t (zB.I hb_a (by decide) (by decide)), c_3]; rfl) (by decide) ?_
        refine lv_iconst (v := zi 0) hx hb d_M_count_50 rfl ?_
        refine lv_istore_n (lv' := [(3, .int (zi 0)), (2, .int (zi 0)), (0, .ref (ad 0)), (1, .int (zi a))]) hx hb d_M_count_51 rfl hl (by decide) rfl (fun ls hl => ?_)
        have L_t : ∀ (z : Int → Int), (∀ (w : Int), zB 0 120 w → ∀ (ls : Array Slot) (H : Heap) (locs : List Loc) (k0 k1 k2 k3 : Int), zB (-115000) 115000 k0 → zB (-115000) 115000 k1 → zB (-115000) 115000 k2 → zB (-115000) 115000 k3 → va_P (dC, dI) classes (wM ad cI N k0 k1 k2 k3) H → va_S (zAM ad) s.heap H locs → z w = r → lv_has ls 5 [(0, .ref (ad 0)), (1, .int (zi a)), (2, .int (zi w))] → W p l e { frames := 6, cells := 0, slots := 0, locals := 143 } s m ([.ref (ad 0), .int (zi a)] : List Value).toArray below meth c H locs 0 0 (MQ below (zQ (some (.int (zi r))) (fun H => ∃ k0 k1 k2 k3 : Int, zB (-115000) 115000 k0 ∧ zB (-115000) 115000 k1 ∧ zB (-115000) 115000 k2 ∧ zB (-115000) 115000 k3 ∧ va_P (dC, dI) classes (wM ad cI N k0 k1 k2 k3) H) (zAM ad)) ([.ref (ad 0), .int (zi a)] : List Value).toArray s 0 0 (zAM ad)) (F0 m 85 ls [])) → ∀ (k : Nat) (w i : Int) (ls : Array Slot) (H : Heap) (locs : List Loc) (k0 k1 k2 k3 : Int), zB (-115000) 115000 k0 → zB (-115000) 115000 k1 → zB (-115000) 115000 k2 → zB (-115000) 115000 k3 → va_P (dC, dI) classes (wM ad cI N k0 k1 k2 k3) H → va_S (zAM ad) s.heap H locs → zB 0 120 w → zB 0 120 i → w ≤ i → 120 - i < (k : Int) → f_M_count_t N a z k w i = r → lv_has ls 5 [(0, .ref (ad 0)), (1, .int (zi a)), (2, .int (zi w)), (3, .int (zi i))] → W p l e { frames := 6, cells := 0, slots := 0, locals := 143 } s m ([.ref (ad 0), .int (zi a)] : List Value).toArray below meth c H locs 0 0 (MQ below (zQ (some (.int (zi r))) (fun H => ∃ k0 k1 k2 k3 : Int, zB (-115000) 115000 k0 ∧ zB (-115000) 115000 k1 ∧ zB (-115000) 115000 k2 ∧ zB (-115000) 115000 k3 ∧ va_P (dC, dI) classes (wM ad cI N k0 k1 k2 k3) H) (zAM ad)) ([.ref (ad 0), .int (zi a)] : List Value).toArray s 0 0 (zAM ad)) (F0 m 52 ls []) := by
          intro z hz k
          induction k with
          | zero =>
            intro w i ls H locs k0 k1 k2 k3 hk0 hk1 hk2 hk3 hP hS hb_w hb_i hi_0 hk hq hl
            exact absurd hk (by have := hb_w.1; have := hb_w.2; have := hb_i.1; have := hb_i.2; omega)
          | succ k ih =>
            intro w i ls H locs k0 k1 k2 k3 hk0 hk1 hk2 hk3 hP hS hb_w hb_i hi_0 hk hq hl
            obtain ⟨hl_w, hh_w⟩ := id hb_w
            obtain ⟨hl_i, hh_i⟩ := id hb_i
            replace hq := (f_M_count_t_s N a z k w i).symm.trans hq
            refine lv_iload_n hx hb d_M_count_52 rfl (lv_at hl 3 rfl) ?_
            refine lv_iconst (v := zi 2) hx hb d_M_count_53 rfl ?_
            refine lv_aload_n hx hb d_M_count_54 rfl (lv_at hl 0 rfl) ?_
            refine va_get (D := (dC, dI)) (ci := 2) (v := .int (zi (N 7 0))) (C := R_M) (T := T_M) (N := 17) hx hb hw i_M hown hK hP 0 rfl rfl 0 (by decide) (hw _ m_226) (fun _ h9 => h9) rfl d_M_count_55 ?_
            have b_4 : zB 0 120 (2 * (N 7 0)) := zB.w (zb_mulq (zb_c 2) (jN_s0 hI) (by decide) (by decide)) (by decide) (by decide)
            refine zr_imul hx hb d_M_count_58 ?_
            refine zr_icmp_ge (tgt := 85) hx hb (zB.I hb_i (by decide) (by decide)) (zB.I b_4 (by decide) (by decide)) d_M_count_59 (by decide) (fun c_5 => ?_) (fun c_5 => ?_)
            · replace hq := (if_neg c_5).symm.trans hq
              exact hz w (zB.w hb_w (by decide) (by decide)) ls _ _ k0 k1 k2 k3 (zB.w hk0 (by decide) (by decide)) (zB.w hk1 (by decide) (by decide)) (zB.w hk2 (by decide) (by decide)) (zB.w hk3 (by decide) (by decide)) hP hS hq (lv_sub hl [0, 1, 2] rfl)
            · replace hq := (if_pos c_5).symm.trans hq
              refine lv_iload_n hx hb d_M_count_62 rfl (lv_at hl 2 rfl) ?_
              refine lv_aload_n hx hb d_M_count_63 rfl (lv_at hl 0 rfl) ?_
              refine va_get (D := (dC, dI)) (ci := 2) (v := .ref (ad 6)) (C := R_M) (T := T_M) (N := 17) hx hb hw i_M hown hK hP 0 rfl rfl 6 (by decide) (hw _ m_232) (fun _ h9 => h9) rfl d_M_count_64 ?_
              refine lv_iload_n hx hb d_M_count_67 rfl (lv_at hl 3 rfl) ?_
              refine zr_iald hx hb hK hP 6 0 (cA := cI) (n := 120) (g := N 5) rfl rfl (i := i) (by omega) (by omega) (by decide) d_M_count_68 ?_
              refine zr_if_lt (tgt := 76) hx hb (zB.I (jN_a5 hI i) (by decide) (by decide)) d_M_count_69 (by decide) (fun c_6 => ?_) (fun c_6 => ?_)
              · replace hq := (if_pos c_6).symm.trans hq
                have r_7 : zB (-1) (-1) (N 5 i) := ⟨(jN_a5 hI i).1, (Int.le_sub_one_of_lt c_6)⟩
                refine lv_iconst (v := zi 0) hx hb d_M_count_76 rfl ?_
                have b_8 : zB 0 120 (w + 0) := zB.w (zb_add hb_w (zb_c 0)) (by decide) (by decide)
                refine zr_iadd hx hb d_M_count_77 ?_
                refine lv_istore_n (lv' := [(2, .int (zi (w + 0))), (0, .ref (ad 0)), (1, .int (zi a)), (3, .int (zi i))]) hx hb d_M_count_78 rfl hl (by decide) rfl (fun ls hl => ?_)
                have b_9 : zB 1 121 (i + 1) := zB.w (zb_add hb_i (zb_c 1)) (by decide) (by decide)
                refine lv_iinc (v := zi (i + 1)) (lv' := [(3, .int (zi (i + 1))), (2, .int (zi (w + 0))), (0, .ref (ad 0)), (1, .int (zi a))]) hx hb d_M_count_79 hl (k := 3) rfl (zi_add _ _) (by decide) rfl (fun ls hl => ?_)
                refine lv_goto (tgt := 52) hx hb d_M_count_82 (by decide) ?_
                exact ih (w + 0) (i + 1) ls _ _ k0 k1 k2 k3 (zB.w hk0 (by decide) (by decide)) (zB.w hk1 (by decide) (by decide)) (zB.w hk2 (by decide) (by decide)) (zB.w hk3 (by decide) (by decide)) hP hS (zB.w b_8 (by decide) (by decide)) ⟨by have h9 := b_9.1; have h8 := b_9.2; omega, by have h9 := b_9.1; have h8 := b_9.2; omega⟩ (by omega) (by omega) hq (lv_sub hl [2, 3, 1, 0] rfl)
              · replace hq := (if_neg c_6).symm.trans hq
                have r_10 : zB 0 1000 (N 5 i) := ⟨(Int.not_lt.mp c_6), (jN_a5 hI i).2⟩
                refine lv_iconst (v := zi 1) hx hb d_M_count_72 rfl ?_
                refine lv_goto (tgt := 77) hx hb d_M_count_73 (by decide) ?_
                have b_11 : zB 1 121 (w + 1) := zB.w (zb_add hb_w (zb_c 1)) (by decide) (by decide)
                refine zr_iadd hx hb d_M_count_77 ?_
                refine lv_istore_n (lv' := [(2, .int (zi (w + 1))), (0, .ref (ad 0)), (1, .int (zi a)), (3, .int (zi i))]) hx hb d_M_count_78 rfl hl (by decide) rfl (fun ls hl => ?_)
                have b_12 : zB 1 121 (i + 1) := zB.w (zb_add hb_i (zb_c 1)) (by decide) (by decide)
                refine lv_iinc (v := zi (i + 1)) (lv' := [(3, .int (zi (i + 1))), (2, .int (zi (w + 1))), (0, .ref (ad 0)), (1, .int (zi a))]) hx hb d_M_count_79 hl (k := 3) rfl (zi_add _ _) (by decide) rfl (fun ls hl => ?_)
                refine lv_goto (tgt := 52) hx hb d_M_count_82 (by decide) ?_
                exact ih (w + 1) (i + 1) ls _ _ k0 k1 k2 k3 (zB.w hk0 (by decide) (by decide)) (zB.w hk1 (by decide) (by decide)) (zB.w hk2 (by decide) (by decide)) (zB.w hk3 (by decide) (by decide)) hP hS ⟨by have h9 := b_11.1; have h8 := b_11.2; omega, by have h9 := b_11.1; have h8 := b_11.2; omega⟩ ⟨by have h9 := b_12.1; have h8 := b_12.2; omega, by have h9 := b_12.1; have h8 := b_12.2; omega⟩ (by omega) (by omega) hq (lv_sub hl [2, 3, 1, 0] rfl)
        refine L_t _ (fun w hb_w ls H locs k0 k1 k2 k3 hk0 hk1 hk2 hk3 hP hS hq hl => ?_) 121 0 0 ls _ _ k0 k1 k2 k3 (zB.w hb_k0 (by decide) (by decide)) (zB.w hb_k1 (by decide) (by decide)) (zB.w hb_k2 (by decide) (by decide)) (zB.w hb_k3 (by decide) (by decide)) hP hS (zB.w (zb_c 0) (by decide) (by decide)) (zB.w (zb_c 0) (by decide) (by decide)) (by omega) (by omega) hq (lv_sub hl [2, 3, 1, 0] rfl)
        obtain ⟨hl_w, hh_w⟩ := id hb_w
        refine lv_iload_n hx hb d_M_count_85 rfl (lv_at hl 2 rfl) ?_
        exact zw_i hx hb hr hlocks hq ⟨k0, k1, k2, k3, zB.w hk0 (by decide) (by decide), zB.w hk1 (by decide) (by decide), zB.w hk2 (by decide) (by decide), zB.w hk3 (by decide) (by decide), hP⟩ hS d_M_count_86
      · replace hq := (if_neg c_3).symm.trans hq
        by_cases c_13 : a = 3
        · replace hq := (if_pos c_13).symm.trans hq
          refine lv_tableIn (tgt := 87) (off := 84) hx hb d_M_count_3 (by rw [zi_t (zB.I hb_a (by decide) (by decide))]; omega) (by rw [zi_t (zB.I hb_a (by decide) (by decide))]; omega) (by rw [zi_t (zB.I hb_a (by decide) (by decide)), c_13]; rfl) (by decide) ?_
          refine lv_iconst (v := zi 0) hx hb d_M_count_87 rfl ?_
          refine lv_istore_n (lv' := [(3, .int (zi 0)), (2, .int (zi 0)), (0, .ref (ad 0)), (1, .int (zi a))]) hx hb d_M_count_88 rfl hl (by decide) rfl (fun ls hl => ?_)
          have L_o : ∀ (z : Int → Int), (∀ (w : Int), zB 0 3600 w → ∀ (ls : Array Slot) (H : Heap) (locs : List Loc) (k0 k1 k2 k3 : Int), zB (-115000) 115000 k0 → zB (-115000) 115000 k1 → zB (-115000) 115000 k2 → zB (-115000) 115000 k3 → va_P (dC, dI) classes (wM ad cI N k0 k1 k2 k3) H → va_S (zAM ad) s.heap H locs → z w = r → lv_has ls 5 [(0, .ref (ad 0)), (2, .int (zi w))] → W p l e { frames := 6, cells := 0, slots := 0, locals := 143 } s m ([.ref (ad 0), .int (zi a)] : List Value).toArray below meth c H locs 0 0 (MQ below (zQ (some (.int (zi r))) (fun H => ∃ k0 k1 k2 k3 : Int, zB (-115000) 115000 k0 ∧ zB (-115000) 115000 k1 ∧ zB (-115000) 115000 k2 ∧ zB (-115000) 115000 k3 ∧ va_P (dC, dI) classes (wM ad cI N k0 k1 k2 k3) H) (zAM ad)) ([.ref (ad 0), .int (zi a)] : List Value).toArray s 0 0 (zAM ad)) (F0 m 136 ls [])) → ∀ (k : Nat) (w i : Int) (ls : Array Slot) (H : Heap) (locs : List Loc) (k0 k1 k2 k3 : Int), zB (-115000) 115000 k0 → zB (-115000) 115000 k1 → zB (-115000) 115000 k2 → zB (-115000) 115000 k3 → va_P (dC, dI) classes (wM ad cI N k0 k1 k2 k3) H → va_S (zAM ad) s.heap H locs → zB 0 3600 w → zB 0 60 i → w ≤ 60 * i → 60 - i < (k : Int) → f_M_count_o N a z k w i = r → lv_has ls 5 [(0, .ref (ad 0)), (2, .int (zi w)), (3, .int (zi i))] → W p l e { frames := 6, cells := 0, slots := 0, locals := 143 } s m ([.ref (ad 0), .int (zi a)] : List Value).toArray below meth c H locs 0 0 (MQ below (zQ (some (.int (zi r))) (fun H => ∃ k0 k1 k2 k3 : Int, zB (-115000) 115000 k0 ∧ zB (-115000) 115000 k1 ∧ zB (-115000) 115000 k2 ∧ zB (-115000) 115000 k3 ∧ va_P (dC, dI) classes (wM ad cI N k0 k1 k2 k3) H) (zAM ad)) ([.ref (ad 0), .int (zi a)] : List Value).toArray s 0 0 (zAM ad)) (F0 m 89 ls []) := by
            intro z hz k
            induction k with
            | zero =>
              intro w i ls H locs k0 k1 k2 k3 hk0 hk1 hk2 hk3 hP hS hb_w hb_i hi_0 hk hq hl
              exact absurd hk (by have := hb_w.1; have := hb_w.2; have := hb_i.1; have := hb_i.2; omega)
            | succ k ih =>
              intro w i ls H locs k0 k1 k2 k3 hk0 hk1 hk2 hk3 hP hS hb_w hb_i hi_0 hk hq hl
              obtain ⟨hl_w, hh_w⟩ := id hb_w
              obtain ⟨hl_i, hh_i⟩ := id hb_i
              replace hq := (f_M_count_o_s N a z k w i).symm.trans hq
              refine lv_iload_n hx hb d_M_count_89 rfl (lv_at hl 2 rfl) ?_
              refine lv_aload_n hx hb d_M_count_90 rfl (lv_at hl 0 rfl) ?_
              refine va_get (D := (dC, dI)) (ci := 2) (v := .int (zi (N 7 0))) (C := R_M) (T := T_M) (N := 17) hx hb hw i_M hown hK hP 0 rfl rfl 0 (by decide) (hw _ m_226) (fun _ h9 => h9) rfl d_M_count_91 ?_
              refine zr_icmp_ge (tgt := 136) hx hb (zB.I hb_i (by decide) (by decide)) (zB.I (jN_s0 hI) (by decide) (by decide)) d_M_count_94 (by decide) (fun c_14 => ?_) (fun c_14 => ?_)
              · replace hq := (if_neg c_14).symm.trans hq
                exact hz w (zB.w hb_w (by decide) (by decide)) ls _ _ k0 k1 k2 k3 (zB.w hk0 (by decide) (by decide)) (zB.w hk1 (by decide) (by decide)) (zB.w hk2 (by decide) (by decide)) (zB.w hk3 (by decide) (by decide)) hP hS hq (lv_sub hl [0, 1] rfl)
              · replace hq := (if_pos c_14).symm.trans hq
                refine lv_iconst (v := zi 0) hx hb d_M_count_97 rfl ?_
                refine lv_istore (lv' := [(4, .int (zi 0)), (0, .ref (ad 0)), (2, .int (zi w)), (3, .int (zi i))]) hx hb d_M_count_98 hl (by decide) rfl (fun ls hl => ?_)
                have L_n : ∀ (z : Int → Int), (∀ (u : Int), zB 0 3600 u → u ≤ 60 * i + 60 → ∀ (ls : Array Slot) (H : Heap) (locs : List Loc) (k0 k1 k2 k3 : Int), zB (-115000) 115000 k0 → zB (-115000) 115000 k1 → zB (-115000) 115000 k2 → zB (-115000) 115000 k3 → va_P (dC, dI) classes (wM ad cI N k0 k1 k2 k3) H → va_S (zAM ad) s.heap H locs → z u = r → lv_has ls 5 [(0, .ref (ad 0)), (2, .int (zi u)), (3, .int (zi i))] → W p l e { frames := 6, cells := 0, slots := 0, locals := 143 } s m ([.ref (ad 0), .int (zi a)] : List Value).toArray below meth c H locs 0 0 (MQ below (zQ (some (.int (zi r))) (fun H => ∃ k0 k1 k2 k3 : Int, zB (-115000) 115000 k0 ∧ zB (-115000) 115000 k1 ∧ zB (-115000) 115000 k2 ∧ zB (-115000) 115000 k3 ∧ va_P (dC, dI) classes (wM ad cI N k0 k1 k2 k3) H) (zAM ad)) ([.ref (ad 0), .int (zi a)] : List Value).toArray s 0 0 (zAM ad)) (F0 m 130 ls [])) → ∀ (k : Nat) (u j : Int) (ls : Array Slot) (H : Heap) (locs : List Loc) (k0 k1 k2 k3 : Int), zB (-115000) 115000 k0 → zB (-115000) 115000 k1 → zB (-115000) 115000 k2 → zB (-115000) 115000 k3 → va_P (dC, dI) classes (wM ad cI N k0 k1 k2 k3) H → va_S (zAM ad) s.heap H locs → zB 0 3600 u → zB 0 60 j → u ≤ 60 * i + j → 60 - j < (k : Int) → f_M_count_n N a w i z k u j = r → lv_has ls 5 [(0, .ref (ad 0)), (2, .int (zi u)), (3, .int (zi i)), (4, .int (zi j))] → W p l e { frames := 6, cells := 0, slots := 0, locals := 143 } s m ([.ref (ad 0), .int (zi a)] : List Value).toArray below meth c H locs 0 0 (MQ below (zQ (some (.int (zi r))) (fun H => ∃ k0 k1 k2 k3 : Int, zB (-115000) 115000 k0 ∧ zB (-115000) 115000 k1 ∧ zB (-115000) 115000 k2 ∧ zB (-115000) 115000 k3 ∧ va_P (dC, dI) classes (wM ad cI N k0 k1 k2 k3) H) (zAM ad)) ([.ref (ad 0), .int (zi a)] : List Value).toArray s 0 0 (zAM ad)) (F0 m 100 ls []) := by
                  intro z hz k
                  induction k with
                  | zero =>
                    intro u j ls H locs k0 k1 k2 k3 hk0 hk1 hk2 hk3 hP hS hb_u hb_j hi_0 hk hq hl
                    exact absurd hk (by have := hb_u.1; have := hb_u.2; have := hb_j.1; have := hb_j.2; omega)
                  | succ k ih =>
                    intro u j ls H locs k0 k1 k2 k3 hk0 hk1 hk2 hk3 hP hS hb_u hb_j hi_0 hk hq hl
                    obtain ⟨hl_u, hh_u⟩ := id hb_u
                    obtain ⟨hl_j, hh_j⟩ := id hb_j
                    replace hq := (f_M_count_n_s N a w i z k u j).symm.trans hq
                    refine lv_iload hx hb d_M_count_100 (lv_at hl 3 rfl) ?_
                    refine lv_iload_n hx hb d_M_count_102 rfl (lv_at hl 2 rfl) ?_
                    refine zr_icmp_ge (tgt := 130) hx hb (zB.I hb_j (by decide) (by decide)) (zB.I hb_i (by decide) (by decide)) d_M_count_103 (by decide) (fun c_15 => ?_) (fun c_15 => ?_)
                    · replace hq := (if_neg c_15).symm.trans hq
                      exact hz u (zB.w hb_u (by decide) (by decide)) (by omega) ls _ _ k0 k1 k2 k3 (zB.w hk0 (by decide) (by decide)) (zB.w hk1 (by decide) (by decide)) (zB.w hk2 (by decide) (by decide)) (zB.w hk3 (by decide) (by decide)) hP hS hq (lv_sub hl [0, 1, 2] rfl)
                    · replace hq := (if_pos c_15).symm.trans hq
                      refine lv_iload_n hx hb d_M_count_106 rfl (lv_at hl 1 rfl) ?_
                      refine lv_aload_n hx hb d_M_count_107 rfl (lv_at hl 0 rfl) ?_
                      refine lv_iload hx hb d_M_count_108 (lv_at hl 3 rfl) ?_
                      refine lv_iload_n hx hb d_M_count_110 rfl (lv_at hl 2 rfl) ?_
                      refine zc_w (va_runV (As := [.int (zi j), .int (zi i)]) (rest := [.int (zi u)]) ⟨hx, hb, hml, hown, hts⟩ (k_M_interrupter l dC dI ad cI N k0 k1 k2 k3 hI hj (zB.w hk0 (by decide) (by decide)) (zB.w hk1 (by decide) (by decide)) (zB.w hk2 (by decide) (by decide)) (zB.w hk3 (by decide) (by decide)) j i ⟨by omega, by omega⟩ ⟨by omega, by omega⟩ ) (zcV 2 hts m_296 m_3 m_294 m_295 m_393 rfl rfl q_M_interrupter ⟨Nat.le_of_ble_eq_true rfl, Nat.le_of_ble_eq_true rfl⟩) (zpM0 hP hK [.int (zi j), .int (zi i)]) rfl rfl hl.1 rfl (lv_room (Nat.le_of_ble_eq_true rfl)) d_M_count_111 ⟨Nat.zero_le _, Nat.zero_le _⟩) hS (fun q _ h => h) (fun q h => h) (fun H locs hP hz1 hk1 hS => ?_)
                      clear hz1 hk1
                      obtain ⟨k0_e_16, k1_e_16, k2_e_16, k3_e_16, hk0_e_16, hk1_e_16, hk2_e_16, hk3_e_16, hP⟩ := hP
                      have b_17 : zB 0 400 (f_M_interrupter N j i) := br_M_interrupter N j i hI ⟨by omega, by omega⟩ ⟨by omega, by omega⟩ 
                      refine zr_if_ne (tgt := 121) hx hb (zB.I b_17 (by decide) (by decide)) d_M_count_114 (by decide) (fun c_18 => ?_) (fun c_18 => ?_)
                      · replace hq := (if_neg c_18).symm.trans hq
                        have r_19 : zB 1 400 (f_M_interrupter N j i) := ⟨(by have := b_17.1; omega), b_17.2⟩
                        refine lv_iconst (v := zi 0) hx hb d_M_count_121 rfl ?_
                        have b_20 : zB 0 3600 (u + 0) := zB.w (zb_add hb_u (zb_c 0)) (by decide) (by decide)
                        refine zr_iadd hx hb d_M_count_122 ?_
                        refine lv_istore_n (lv' := [(2, .int (zi (u + 0))), (0, .ref (ad 0)), (3, .int (zi i)), (4, .int (zi j))]) hx hb d_M_count_123 rfl hl (by decide) rfl (fun ls hl => ?_)
                        have b_21 : zB 1 61 (j + 1) := zB.w (zb_add hb_j (zb_c 1)) (by decide) (by decide)
                        refine lv_iinc (v := zi (j + 1)) (lv' := [(4, .int (zi (j + 1))), (2, .int (zi (u + 0))), (0, .ref (ad 0)), (3, .int (zi i))]) hx hb d_M_count_124 hl (k := 3) rfl (zi_add _ _) (by decide) rfl (fun ls hl => ?_)
                        refine lv_goto (tgt := 100) hx hb d_M_count_127 (by decide) ?_
                        exact ih (u + 0) (j + 1) ls _ _ k0_e_16 k1_e_16 k2_e_16 k3_e_16 (zB.w hk0_e_16 (by decide) (by decide)) (zB.w hk1_e_16 (by decide) (by decide)) (zB.w hk2_e_16 (by decide) (by decide)) (zB.w hk3_e_16 (by decide) (by decide)) hP hS (zB.w b_20 (by decide) (by decide)) ⟨by have h9 := b_21.1; have h8 := b_21.2; omega, by have h9 := b_21.1; have h8 := b_21.2; omega⟩ (by omega) (by omega) hq (lv_sub hl [2, 1, 3, 0] rfl)
                      · replace hq := (if_pos c_18).symm.trans hq
                        have r_22 : zB 0 0 (f_M_interrupter N j i) := ⟨(Int.le_of_eq c_18.symm), (Int.le_of_eq c_18)⟩
                        refine lv_iconst (v := zi 1) hx hb d_M_count_117 rfl ?_
                        refine lv_goto (tgt := 122) hx hb d_M_count_118 (by decide) ?_
                        have b_23 : zB 1 3601 (u + 1) := zB.w (zb_add hb_u (zb_c 1)) (by decide) (by decide)
                        refine zr_iadd hx hb d_M_count_122 ?_
                        refine lv_istore_n (lv' := [(2, .int (zi (u + 1))), (0, .ref (ad 0)), (3, .int (zi i)), (4, .int (zi j))]) hx hb d_M_count_123 rfl hl (by decide) rfl (fun ls hl => ?_)
                        have b_24 : zB 1 61 (j + 1) := zB.w (zb_add hb_j (zb_c 1)) (by decide) (by decide)
                        refine lv_iinc (v := zi (j + 1)) (lv' := [(4, .int (zi (j + 1))), (2, .int (zi (u + 1))), (0, .ref (ad 0)), (3, .int (zi i))]) hx hb d_M_count_124 hl (k := 3) rfl (zi_add _ _) (by decide) rfl (fun ls hl => ?_)
                        refine lv_goto (tgt := 100) hx hb d_M_count_127 (by decide) ?_
                        exact ih (u + 1) (j + 1) ls _ _ k0_e_16 k1_e_16 k2_e_16 k3_e_16 (zB.w hk0_e_16 (by decide) (by decide)) (zB.w hk1_e_16 (by decide) (by decide)) (zB.w hk2_e_16 (by decide) (by decide)) (zB.w hk3_e_16 (by decide) (by decide)) hP hS ⟨by have h9 := b_23.1; have h8 := b_23.2; omega, by have h9 := b_23.1; have h8 := b_23.2; omega⟩ ⟨by have h9 := b_24.1; have h8 := b_24.2; omega, by have h9 := b_24.1; have h8 := b_24.2; omega⟩ (by omega) (by omega) hq (lv_sub hl [2, 1, 3, 0] rfl)
                refine L_n _ (fun u hb_u ho_n0 ls H locs k0 k1 k2 k3 hk0 hk1 hk2 hk3 hP hS hq hl => ?_) 61 w 0 ls _ _ k0 k1 k2 k3 (zB.w hk0 (by decide) (by decide)) (zB.w hk1 (by decide) (by decide)) (zB.w hk2 (by decide) (by decide)) (zB.w hk3 (by decide) (by decide)) hP hS (zB.w hb_w (by decide) (by decide)) (zB.w (zb_c 0) (by decide) (by decide)) (by omega) (by omega) hq (lv_sub hl [1, 2, 3, 0] rfl)
                obtain ⟨hl_u, hh_u⟩ := id hb_u
                have b_25 : zB 1 61 (i + 1) := zB.w (zb_add hb_i (zb_c 1)) (by decide) (by decide)
                refine lv_iinc (v := zi (i + 1)) (lv' := [(3, .int (zi (i + 1))), (0, .ref (ad 0)), (2, .int (zi u))]) hx hb d_M_count_130 hl (k := 2) rfl (zi_add _ _) (by decide) rfl (fun ls hl => ?_)
                refine lv_goto (tgt := 89) hx hb d_M_count_133 (by decide) ?_
                exact ih u (i + 1) ls _ _ k0 k1 k2 k3 (zB.w hk0 (by decide) (by decide)) (zB.w hk1 (by decide) (by decide)) (zB.w hk2 (by decide) (by decide)) (zB.w hk3 (by decide) (by decide)) hP hS (zB.w hb_u (by decide) (by decide)) ⟨by have h9 := b_25.1; have h8 := b_25.2; omega, by have h9 := b_25.1; have h8 := b_25.2; omega⟩ (by omega) (by omega) hq (lv_sub hl [1, 2, 0] rfl)
          refine L_o _ (fun w hb_w ls H locs k0 k1 k2 k3 hk0 hk1 hk2 hk3 hP hS hq hl => ?_) 61 0 0 ls _ _ k0 k1 k2 k3 (zB.w hb_k0 (by decide) (by decide)) (zB.w hb_k1 (by decide) (by decide)) (zB.w hb_k2 (by decide) (by decide)) (zB.w hb_k3 (by decide) (by decide)) hP hS (zB.w (zb_c 0) (by decide) (by decide)) (zB.w (zb_c 0) (by decide) (by decide)) (by omega) (by omega) hq (lv_sub hl [2, 1, 0] rfl)
          obtain ⟨hl_w, hh_w⟩ := id hb_w
          refine lv_iload_n hx hb d_M_count_136 rfl (lv_at hl 1 rfl) ?_
          exact zw_i hx hb hr hlocks hq ⟨k0, k1, k2, k3, zB.w hk0 (by decide) (by decide), zB.w hk1 (by decide) (by decide), zB.w hk2 (by decide) (by decide), zB.w hk3 (by decide) (by decide), hP⟩ hS d_M_count_137
        · replace hq := (if_neg c_13).symm.trans hq
          by_cases c_26 : a = 4
          · replace hq := (if_pos c_26).symm.trans hq
            refine lv_tableIn (tgt := 138) (off := 135) hx hb d_M_count_3 (by rw [zi_t (zB.I hb_a (by decide) (by decide))]; omega) (by rw [zi_t (zB.I hb_a (by decide) (by decide))]; omega) (by rw [zi_t (zB.I hb_a (by decide) (by decide)), c_26]; rfl) (by decide) ?_
            refine lv_iconst (v := zi 0) hx hb d_M_count_138 rfl ?_
            refine lv_istore_n (lv' := [(3, .int (zi 0)), (2, .int (zi 0)), (0, .ref (ad 0)), (1, .int (zi a))]) hx hb d_M_count_139 rfl hl (by decide) rfl (fun ls hl => ?_)
            have L_d : ∀ (z : Int → Int), (∀ (w : Int), zB 0 60 w → ∀ (ls : Array Slot) (H : Heap) (locs : List Loc) (k0 k1 k2 k3 : Int), zB (-115000) 115000 k0 → zB (-115000) 115000 k1 → zB (-115000) 115000 k2 → zB (-115000) 115000 k3 → va_P (dC, dI) classes (wM ad cI N k0 k1 k2 k3) H → va_S (zAM ad) s.heap H locs → z w = r → lv_has ls 5 [(0, .ref (ad 0)), (1, .int (zi a)), (2, .int (zi w))] → W p l e { frames := 6, cells := 0, slots := 0, locals := 143 } s m ([.ref (ad 0), .int (zi a)] : List Value).toArray below meth c H locs 0 0 (MQ below (zQ (some (.int (zi r))) (fun H => ∃ k0 k1 k2 k3 : Int, zB (-115000) 115000 k0 ∧ zB (-115000) 115000 k1 ∧ zB (-115000) 115000 k2 ∧ zB (-115000) 115000 k3 ∧ va_P (dC, dI) classes (wM ad cI N k0 k1 k2 k3) H) (zAM ad)) ([.ref (ad 0), .int (zi a)] : List Value).toArray s 0 0 (zAM ad)) (F0 m 180 ls [])) → ∀ (k : Nat) (w i : Int) (ls : Array Slot) (H : Heap) (locs : List Loc) (k0 k1 k2 k3 : Int), zB (-115000) 115000 k0 → zB (-115000) 115000 k1 → zB (-115000) 115000 k2 → zB (-115000) 115000 k3 → va_P (dC, dI) classes (wM ad cI N k0 k1 k2 k3) H → va_S (zAM ad) s.heap H locs → zB 0 60 w → zB 0 60 i → w ≤ i → 60 - i < (k : Int) → f_M_count_d N a z k w i = r → lv_has ls 5 [(0, .ref (ad 0)), (1, .int (zi a)), (2, .int (zi w)), (3, .int (zi i))] → W p l e { frames := 6, cells := 0, slots := 0, locals := 143 } s m ([.ref (ad 0), .int (zi a)] : List Value).toArray below meth c H locs 0 0 (MQ below (zQ (some (.int (zi r))) (fun H => ∃ k0 k1 k2 k3 : Int, zB (-115000) 115000 k0 ∧ zB (-115000) 115000 k1 ∧ zB (-115000) 115000 k2 ∧ zB (-115000) 115000 k3 ∧ va_P (dC, dI) classes (wM ad cI N k0 k1 k2 k3) H) (zAM ad)) ([.ref (ad 0), .int (zi a)] : List Value).toArray s 0 0 (zAM ad)) (F0 m 140 ls []) := by
              intro z hz k
              induction k with
              | zero =>
                intro w i ls H locs k0 k1 k2 k3 hk0 hk1 hk2 hk3 hP hS hb_w hb_i hi_0 hk hq hl
                exact absurd hk (by have := hb_w.1; have := hb_w.2; have := hb_i.1; have := hb_i.2; omega)
              | succ k ih =>
                intro w i ls H locs k0 k1 k2 k3 hk0 hk1 hk2 hk3 hP hS hb_w hb_i hi_0 hk hq hl
                obtain ⟨hl_w, hh_w⟩ := id hb_w
                obtain ⟨hl_i, hh_i⟩ := id hb_i
                replace hq := (f_M_count_d_s N a z k w i).symm.trans hq
                refine lv_iload_n hx hb d_M_count_140 rfl (lv_at hl 3 rfl) ?_
                refine lv_aload_n hx hb d_M_count_141 rfl (lv_at hl 0 rfl) ?_
                refine va_get (D := (dC, dI)) (ci := 2) (v := .int (zi (N 7 0))) (C := R_M) (T := T_M) (N := 17) hx hb hw i_M hown hK hP 0 rfl rfl 0 (by decide) (hw _ m_226) (fun _ h9 => h9) rfl d_M_count_142 ?_
                refine zr_icmp_ge (tgt := 180) hx hb (zB.I hb_i (by decide) (by decide)) (zB.I (jN_s0 hI) (by decide) (by decide)) d_M_count_145 (by decide) (fun c_27 => ?_) (fun c_27 => ?_)
                · replace hq := (if_neg c_27).symm.trans hq
                  exact hz w (zB.w hb_w (by decide) (by decide)) ls _ _ k0 k1 k2 k3 (zB.w hk0 (by decide) (by decide)) (zB.w hk1 (by decide) (by decide)) (zB.w hk2 (by decide) (by decide)) (zB.w hk3 (by decide) (by decide)) hP hS hq (lv_sub hl [0, 1, 2] rfl)
                · replace hq := (if_pos c_27).symm.trans hq
                  refine lv_iload_n hx hb d_M_count_148 rfl (lv_at hl 2 rfl) ?_
                  refine lv_aload_n hx hb d_M_count_149 rfl (lv_at hl 0 rfl) ?_
                  refine lv_iload_n hx hb d_M_count_150 rfl (lv_at hl 3 rfl) ?_
                  refine lv_iload_n hx hb d_M_count_151 rfl (lv_at hl 1 rfl) ?_
                  refine lv_iconst (v := zi 5) hx hb d_M_count_152 rfl ?_
                  refine zr_icmp_ne (tgt := 160) hx hb (zB.I (⟨Int.le_of_eq c_26.symm, Int.le_of_eq c_26⟩ : zB 4 4 a) (by decide) (by decide)) (zB.I (zb_c 5) (by decide) (by decide)) d_M_count_153 (by decide) (fun _ => ?_) (fun c => absurd c (by have h9 := (⟨Int.le_of_eq c_26.symm, Int.le_of_eq c_26⟩ : zB 4 4 a).1; have h8 := (⟨Int.le_of_eq c_26.symm, Int.le_of_eq c_26⟩ : zB 4 4 a).2; have h7 := (zb_c 5).1; have h6 := (zb_c 5).2; omega : ¬ a = 5))
                  refine lv_iconst (v := zi 0) hx hb d_M_count_160 rfl ?_
                  refine zc_w (va_runV (As := [.int (zi i), .int (zi 0)]) (rest := [.int (zi w)]) ⟨hx, hb, hml, hown, hts⟩ (k_M_isBlind l dC dI ad cI N k0 k1 k2 k3 hI hj (zB.w hk0 (by decide) (by decide)) (zB.w hk1 (by decide) (by decide)) (zB.w hk2 (by decide) (by decide)) (zB.w hk3 (by decide) (by decide)) i 0 ⟨by omega, by omega⟩ (zB.w (zb_c 0) (by decide) (by decide)) (by omega)) (zcV 2 hts m_342 m_3 m_340 m_341 m_402 rfl rfl q_M_isBlind ⟨Nat.le_of_ble_eq_true rfl, Nat.le_of_ble_eq_true rfl⟩) (zpM0 hP hK [.int (zi i), .int (zi 0)]) rfl rfl hl.1 rfl (lv_room (Nat.le_of_ble_eq_true rfl)) d_M_count_161 ⟨Nat.zero_le _, Nat.zero_le _⟩) hS (fun q _ h => h) (fun q h => h) (fun H locs hP hz1 hk1 hS => ?_)
                  clear hz1 hk1
                  obtain ⟨k0_e_28, k1_e_28, k2_e_28, k3_e_28, hk0_e_28, hk1_e_28, hk2_e_28, hk3_e_28, hP⟩ := hP
                  refine zr_if_eq (tgt := 171) hx hb (zB.I (bb_M_isBlind N i 0) (by decide) (by decide)) d_M_count_164 (by decide) (fun c_29 => ?_) (fun c_29 => ?_)
                  · replace hq := (if_pos c_29).symm.trans hq
                    have r_30 : zB 0 0 (f_M_isBlind N i 0) := ⟨(Int.le_of_eq c_29.symm), (Int.le_of_eq c_29)⟩
                    refine lv_iconst (v := zi 0) hx hb d_M_count_171 rfl ?_
                    have b_31 : zB 0 60 (w + 0) := zB.w (zb_add hb_w (zb_c 0)) (by decide) (by decide)
                    refine zr_iadd hx hb d_M_count_172 ?_
                    refine lv_istore_n (lv' := [(2, .int (zi (w + 0))), (0, .ref (ad 0)), (1, .int (zi a)), (3, .int (zi i))]) hx hb d_M_count_173 rfl hl (by decide) rfl (fun ls hl => ?_)
                    have b_32 : zB 1 61 (i + 1) := zB.w (zb_add hb_i (zb_c 1)) (by decide) (by decide)
                    refine lv_iinc (v := zi (i + 1)) (lv' := [(3, .int (zi (i + 1))), (2, .int (zi (w + 0))), (0, .ref (ad 0)), (1, .int (zi a))]) hx hb d_M_count_174 hl (k := 3) rfl (zi_add _ _) (by decide) rfl (fun ls hl => ?_)
                    refine lv_goto (tgt := 140) hx hb d_M_count_177 (by decide) ?_
                    exact ih (w + 0) (i + 1) ls _ _ k0_e_28 k1_e_28 k2_e_28 k3_e_28 (zB.w hk0_e_28 (by decide) (by decide)) (zB.w hk1_e_28 (by decide) (by decide)) (zB.w hk2_e_28 (by decide) (by decide)) (zB.w hk3_e_28 (by decide) (by decide)) hP hS (zB.w b_31 (by decide) (by decide)) ⟨by have h9 := b_32.1; have h8 := b_32.2; omega, by have h9 := b_32.1; have h8 := b_32.2; omega⟩ (by omega) (by omega) hq (lv_sub hl [2, 3, 1, 0] rfl)
                  · replace hq := (if_neg c_29).symm.trans hq
                    have r_33 : zB 1 1 (f_M_isBlind N i 0) := ⟨(by have := (bb_M_isBlind N i 0).1; omega), (bb_M_isBlind N i 0).2⟩
                    refine lv_iconst (v := zi 1) hx hb d_M_count_167 rfl ?_
                    refine lv_goto (tgt := 172) hx hb d_M_count_168 (by decide) ?_
                    have b_34 : zB 1 61 (w + 1) := zB.w (zb_add hb_w (zb_c 1)) (by decide) (by decide)
                    refine zr_iadd hx hb d_M_count_172 ?_
                    refine lv_istore_n (lv' := [(2, .int (zi (w + 1))), (0, .ref (ad 0)), (1, .int (zi a)), (3, .int (zi i))]) hx hb d_M_count_173 rfl hl (by decide) rfl (fun ls hl => ?_)
                    have b_35 : zB 1 61 (i + 1) := zB.w (zb_add hb_i (zb_c 1)) (by decide) (by decide)
                    refine lv_iinc (v := zi (i + 1)) (lv' := [(3, .int (zi (i + 1))), (2, .int (zi (w + 1))), (0, .ref (ad 0)), (1, .int (zi a))]) hx hb d_M_count_174 hl (k := 3) rfl (zi_add _ _) (by decide) rfl (fun ls hl => ?_)
                    refine lv_goto (tgt := 140) hx hb d_M_count_177 (by decide) ?_
                    exact ih (w + 1) (i + 1) ls _ _ k0_e_28 k1_e_28 k2_e_28 k3_e_28 (zB.w hk0_e_28 (by decide) (by decide)) (zB.w hk1_e_28 (by decide) (by decide)) (zB.w hk2_e_28 (by decide) (by decide)) (zB.w hk3_e_28 (by decide) (by decide)) hP hS ⟨by have h9 := b_34.1; have h8 := b_34.2; omega, by have h9 := b_34.1; have h8 := b_34.2; omega⟩ ⟨by have h9 := b_35.1; have h8 := b_35.2; omega, by have h9 := b_35.1; have h8 := b_35.2; omega⟩ (by omega) (by omega) hq (lv_sub hl [2, 3, 1, 0] rfl)
            refine L_d _ (fun w hb_w ls H locs k0 k1 k2 k3 hk0 hk1 hk2 hk3 hP hS hq hl => ?_) 61 0 0 ls _ _ k0 k1 k2 k3 (zB.w hb_k0 (by decide) (by decide)) (zB.w hb_k1 (by decide) (by decide)) (zB.w hb_k2 (by decide) (by decide)) (zB.w hb_k3 (by decide) (by decide)) hP hS (zB.w (zb_c 0) (by decide) (by decide)) (zB.w (zb_c 0) (by decide) (by decide)) (by omega) (by omega) hq (lv_sub hl [2, 3, 1, 0] rfl)
            obtain ⟨hl_w, hh_w⟩ := id hb_w
            refine lv_iload_n hx hb d_M_count_180 rfl (lv_at hl 2 rfl) ?_
            exact zw_i hx hb hr hlocks hq ⟨k0, k1, k2, k3, zB.w hk0 (by decide) (by decide), zB.w hk1 (by decide) (by decide), zB.w hk2 (by decide) (by decide), zB.w hk3 (by decide) (by decide), hP⟩ hS d_M_count_181
          · replace hq := (if_neg c_26).symm.trans hq
            by_cases c_36 : a = 5
            · replace hq := (if_pos c_36).symm.trans hq
              refine lv_tableIn (tgt := 138) (off := 135) hx hb d_M_count_3 (by rw [zi_t (zB.I hb_a (by decide) (by decide))]; omega) (by rw [zi_t (zB.I hb_a (by decide) (by decide))]; omega) (by rw [zi_t (zB.I hb_a (by decide) (by decide)), c_36]; rfl) (by decide) ?_
              refine lv_iconst (v := zi 0) hx hb d_M_count_138 rfl ?_
              refine lv_istore_n (lv' := [(3, .int (zi 0)), (2, .int (zi 0)), (0, .ref (ad 0)), (1, .int (zi a))]) hx hb d_M_count_139 rfl hl (by decide) rfl (fun ls hl => ?_)
              have L_d2 : ∀ (z : Int → Int), (∀ (w : Int), zB 0 60 w → ∀ (ls : Array Slot) (H : Heap) (locs : List Loc) (k0 k1 k2 k3 : Int), zB (-115000) 115000 k0 → zB (-115000) 115000 k1 → zB (-115000) 115000 k2 → zB (-115000) 115000 k3 → va_P (dC, dI) classes (wM ad cI N k0 k1 k2 k3) H → va_S (zAM ad) s.heap H locs → z w = r → lv_has ls 5 [(0, .ref (ad 0)), (1, .int (zi a)), (2, .int (zi w))] → W p l e { frames := 6, cells := 0, slots := 0, locals := 143 } s m ([.ref (ad 0), .int (zi a)] : List Value).toArray below meth c H locs 0 0 (MQ below (zQ (some (.int (zi r))) (fun H => ∃ k0 k1 k2 k3 : Int, zB (-115000) 115000 k0 ∧ zB (-115000) 115000 k1 ∧ zB (-115000) 115000 k2 ∧ zB (-115000) 115000 k3 ∧ va_P (dC, dI) classes (wM ad cI N k0 k1 k2 k3) H) (zAM ad)) ([.ref (ad 0), .int (zi a)] : List Value).toArray s 0 0 (zAM ad)) (F0 m 180 ls [])) → ∀ (k : Nat) (w i : Int) (ls : Array Slot) (H : Heap) (locs : List Loc) (k0 k1 k2 k3 : Int), zB (-115000) 115000 k0 → zB (-115000) 115000 k1 → zB (-115000) 115000 k2 → zB (-115000) 115000 k3 → va_P (dC, dI) classes (wM ad cI N k0 k1 k2 k3) H → va_S (zAM ad) s.heap H locs → zB 0 60 w → zB 0 60 i → w ≤ i → 60 - i < (k : Int) → f_M_count_d2 N a z k w i = r → lv_has ls 5 [(0, .ref (ad 0)), (1, .int (zi a)), (2, .int (zi w)), (3, .int (zi i))] → W p l e { frames := 6, cells := 0, slots := 0, locals := 143 } s m ([.ref (ad 0), .int (zi a)] : List Value).toArray below meth c H locs 0 0 (MQ below (zQ (some (.int (zi r))) (fun H => ∃ k0 k1 k2 k3 : Int, zB (-115000) 115000 k0 ∧ zB (-115000) 115000 k1 ∧ zB (-115000) 115000 k2 ∧ zB (-115000) 115000 k3 ∧ va_P (dC, dI) classes (wM ad cI N k0 k1 k2 k3) H) (zAM ad)) ([.ref (ad 0), .int (zi a)] : List Value).toArray s 0 0 (zAM ad)) (F0 m 140 ls []) := by
                intro z hz k
                induction k with
                | zero =>
                  intro w i ls H locs k0 k1 k2 k3 hk0 hk1 hk2 hk3 hP hS hb_w hb_i hi_0 hk hq hl
                  exact absurd hk (by have := hb_w.1; have := hb_w.2; have := hb_i.1; have := hb_i.2; omega)
                | succ k ih =>
                  intro w i ls H locs k0 k1 k2 k3 hk0 hk1 hk2 hk3 hP hS hb_w hb_i hi_0 hk hq hl
                  obtain ⟨hl_w, hh_w⟩ := id hb_w
                  obtain ⟨hl_i, hh_i⟩ := id hb_i
                  replace hq := (f_M_count_d2_s N a z k w i).symm.trans hq
                  refine lv_iload_n hx hb d_M_count_140 rfl (lv_at hl 3 rfl) ?_
                  refine lv_aload_n hx hb d_M_count_141 rfl (lv_at hl 0 rfl) ?_
                  refine va_get (D := (dC, dI)) (ci := 2) (v := .int (zi (N 7 0))) (C := R_M) (T := T_M) (N := 17) hx hb hw i_M hown hK hP 0 rfl rfl 0 (by decide) (hw _ m_226) (fun _ h9 => h9) rfl d_M_count_142 ?_
                  refine zr_icmp_ge (tgt := 180) hx hb (zB.I hb_i (by decide) (by decide)) (zB.I (jN_s0 hI) (by decide) (by decide)) d_M_count_145 (by decide) (fun c_37 => ?_) (fun c_37 => ?_)
                  · replace hq := (if_neg c_37).symm.trans hq
                    exact hz w (zB.w hb_w (by decide) (by decide)) ls _ _ k0 k1 k2 k3 (zB.w hk0 (by decide) (by decide)) (zB.w hk1 (by decide) (by decide)) (zB.w hk2 (by decide) (by decide)) (zB.w hk3 (by decide) (by decide)) hP hS hq (lv_sub hl [0, 1, 2] rfl)
                  · replace hq := (if_pos c_37).symm.trans hq
                    refine lv_iload_n hx hb d_M_count_148 rfl (lv_at hl 2 rfl) ?_
                    refine lv_aload_n hx hb d_M_count_149 rfl (lv_at hl 0 rfl) ?_
                    refine lv_iload_n hx hb d_M_count_150 rfl (lv_at hl 3 rfl) ?_
                    refine lv_iload_n hx hb d_M_count_151 rfl (lv_at hl 1 rfl) ?_
                    refine lv_iconst (v := zi 5) hx hb d_M_count_152 rfl ?_
                    refine zr_icmp_ne (tgt := 160) hx hb (zB.I (⟨Int.le_of_eq c_36.symm, Int.le_of_eq c_36⟩ : zB 5 5 a) (by decide) (by decide)) (zB.I (zb_c 5) (by decide) (by decide)) d_M_count_153 (by decide) (fun c => absurd c_36 c) (fun _ => ?_)
                    refine lv_iconst (v := zi 1) hx hb d_M_count_156 rfl ?_
                    refine lv_goto (tgt := 161) hx hb d_M_count_157 (by decide) ?_
                    refine zc_w (va_runV (As := [.int (zi i), .int (zi 1)]) (rest := [.int (zi w)]) ⟨hx, hb, hml, hown, hts⟩ (k_M_isBlind l dC dI ad cI N k0 k1 k2 k3 hI hj (zB.w hk0 (by decide) (by decide)) (zB.w hk1 (by decide) (by decide)) (zB.w hk2 (by decide) (by decide)) (zB.w hk3 (by decide) (by decide)) i 1 ⟨by omega, by omega⟩ (zB.w (zb_c 1) (by decide) (by decide)) (by omega)) (zcV 2 hts m_342 m_3 m_340 m_341 m_402 rfl rfl q_M_isBlind ⟨Nat.le_of_ble_eq_true rfl, Nat.le_of_ble_eq_true rfl⟩) (zpM0 hP hK [.int (zi i), .int (zi 1)]) rfl rfl hl.1 rfl (lv_room (Nat.le_of_ble_eq_true rfl)) d_M_count_161 ⟨Nat.zero_le _, Nat.zero_le _⟩) hS (fun q _ h => h) (fun q h => h) (fun H locs hP hz1 hk1 hS => ?_)
                    clear hz1 hk1
                    obtain ⟨k0_e_38, k1_e_38, k2_e_38, k3_e_38, hk0_e_38, hk1_e_38, hk2_e_38, hk3_e_38, hP⟩ := hP
                    refine zr_if_eq (tgt := 171) hx hb (zB.I (bb_M_isBlind N i 1) (by decide) (by decide)) d_M_count_164 (by decide) (fun c_39 => ?_) (fun c_39 => ?_)
                    · replace hq := (if_pos c_39).symm.trans hq
                      have r_40 : zB 0 0 (f_M_isBlind N i 1) := ⟨(Int.le_of_eq c_39.symm), (Int.le_of_eq c_39)⟩
                      refine lv_iconst (v := zi 0) hx hb d_M_count_171 rfl ?_
                      have b_41 : zB 0 60 (w + 0) := zB.w (zb_add hb_w (zb_c 0)) (by decide) (by decide)
                      refine zr_iadd hx hb d_M_count_172 ?_
                      refine lv_istore_n (lv' := [(2, .int (zi (w + 0))), (0, .ref (ad 0)), (1, .int (zi a)), (3, .int (zi i))]) hx hb d_M_count_173 rfl hl (by decide) rfl (fun ls hl => ?_)
                      have b_42 : zB 1 61 (i + 1) := zB.w (zb_add hb_i (zb_c 1)) (by decide) (by decide)
                      refine lv_iinc (v := zi (i + 1)) (lv' := [(3, .int (zi (i + 1))), (2, .int (zi (w + 0))), (0, .ref (ad 0)), (1, .int (zi a))]) hx hb d_M_count_174 hl (k := 3) rfl (zi_add _ _) (by decide) rfl (fun ls hl => ?_)
                      refine lv_goto (tgt := 140) hx hb d_M_count_177 (by decide) ?_
                      exact ih (w + 0) (i + 1) ls _ _ k0_e_38 k1_e_38 k2_e_38 k3_e_38 (zB.w hk0_e_38 (by decide) (by decide)) (zB.w hk1_e_38 (by decide) (by decide)) (zB.w hk2_e_38 (by decide) (by decide)) (zB.w hk3_e_38 (by decide) (by decide)) hP hS (zB.w b_41 (by decide) (by decide)) ⟨by have h9 := b_42.1; have h8 := b_42.2; omega, by have h9 := b_42.1; have h8 := b_42.2; omega⟩ (by omega) (by omega) hq (lv_sub hl [2, 3, 1, 0] rfl)
                    · replace hq := (if_neg c_39).symm.trans hq
                      have r_43 : zB 1 1 (f_M_isBlind N i 1) := ⟨(by have := (bb_M_isBlind N i 1).1; omega), (bb_M_isBlind N i 1).2⟩
                      refine lv_iconst (v := zi 1) hx hb d_M_count_167 rfl ?_
                      refine lv_goto (tgt := 172) hx hb d_M_count_168 (by decide) ?_
                      have b_44 : zB 1 61 (w + 1) := zB.w (zb_add hb_w (zb_c 1)) (by decide) (by decide)
                      refine zr_iadd hx hb d_M_count_172 ?_
                      refine lv_istore_n (lv' := [(2, .int (zi (w + 1))), (0, .ref (ad 0)), (1, .int (zi a)), (3, .int (zi i))]) hx hb d_M_count_173 rfl hl (by decide) rfl (fun ls hl => ?_)
                      have b_45 : zB 1 61 (i + 1) := zB.w (zb_add hb_i (zb_c 1)) (by decide) (by decide)
                      refine lv_iinc (v := zi (i + 1)) (lv' := [(3, .int (zi (i + 1))), (2, .int (zi (w + 1))), (0, .ref (ad 0)), (1, .int (zi a))]) hx hb d_M_count_174 hl (k := 3) rfl (zi_add _ _) (by decide) rfl (fun ls hl => ?_)
                      refine lv_goto (tgt := 140) hx hb d_M_count_177 (by decide) ?_
                      exact ih (w + 1) (i + 1) ls _ _ k0_e_38 k1_e_38 k2_e_38 k3_e_38 (zB.w hk0_e_38 (by decide) (by decide)) (zB.w hk1_e_38 (by decide) (by decide)) (zB.w hk2_e_38 (by decide) (by decide)) (zB.w hk3_e_38 (by decide) (by decide)) hP hS ⟨by have h9 := b_44.1; have h8 := b_44.2; omega, by have h9 := b_44.1; have h8 := b_44.2; omega⟩ ⟨by have h9 := b_45.1; have h8 := b_45.2; omega, by have h9 := b_45.1; have h8 := b_45.2; omega⟩ (by omega) (by omega) hq (lv_sub hl [2, 3, 1, 0] rfl)
              refine L_d2 _ (fun w hb_w ls H locs k0 k1 k2 k3 hk0 hk1 hk2 hk3 hP hS hq hl => ?_) 61 0 0 ls _ _ k0 k1 k2 k3 (zB.w hb_k0 (by decide) (by decide)) (zB.w hb_k1 (by decide) (by decide)) (zB.w hb_k2 (by decide) (by decide)) (zB.w hb_k3 (by decide) (by decide)) hP hS (zB.w (zb_c 0) (by decide) (by decide)) (zB.w (zb_c 0) (by decide) (by decide)) (by omega) (by omega) hq (lv_sub hl [2, 3, 1, 0] rfl)
              obtain ⟨hl_w, hh_w⟩ := id hb_w
              refine lv_iload_n hx hb d_M_count_180 rfl (lv_at hl 2 rfl) ?_
              exact zw_i hx hb hr hlocks hq ⟨k0, k1, k2, k3, zB.w hk0 (by decide) (by decide), zB.w hk1 (by decide) (by decide), zB.w hk2 (by decide) (by decide), zB.w hk3 (by decide) (by decide), hP⟩ hS d_M_count_181
            · replace hq := (if_neg c_36).symm.trans hq
              refine lv_tableOut (tgt := 182) hx hb d_M_count_3 (by rw [zi_t (zB.I hb_a (by decide) (by decide))]; omega) (by decide) ?_
              refine lv_iconst (v := zi (-1)) hx hb d_M_count_182 rfl ?_
              exact zw_i hx hb hr hlocks hq ⟨k0, k1, k2, k3, zB.w hb_k0 (by decide) (by decide), zB.w hb_k1 (by decide) (by decide), zB.w hb_k2 (by decide) (by decide), zB.w hb_k3 (by decide) (by decide), hP⟩ hS d_M_count_183
def f_M_box (N : Nat → Int → Int) (a b d v w : Int) : Int × (Nat → Int → Int) := if (f_M_isPoint a b) = 0 then ((-1, N)) else (if (f_M_isPoint d v) = 0 then ((-1, N)) else (if d < a then ((-1, N)) else (if v < b then ((-1, N)) else (if (f_M_within w (-100000) 100000) = 0 then ((-1, N)) else (if (N 7 1) = 8 then ((-1, N)) else ((((N 7 1) + 1) - 1, zs (zs (zs (zs (zs (zs N 6 (zu (N 6) (5 * (N 7 1)) a)) 6 (zu (zu (N 6) (5 * (N 7 1)) a) ((5 * (N 7 1)) + 1) b)) 6 (zu (zu (zu (N 6) (5 * (N 7 1)) a) ((5 * (N 7 1)) + 1) b) ((5 * (N 7 1)) + 2) d)) 6 (zu (zu (zu (zu (N 6) (5 * (N 7 1)) a) ((5 * (N 7 1)) + 1) b) ((5 * (N 7 1)) + 2) d) ((5 * (N 7 1)) + 3) v)) 6 (zu (zu (zu (zu (zu (N 6) (5 * (N 7 1)) a) ((5 * (N 7 1)) + 1) b) ((5 * (N 7 1)) + 2) d) ((5 * (N 7 1)) + 3) v) ((5 * (N 7 1)) + 4) w)) 7 (zu ((zs (zs (zs (zs (zs N 6 (zu (N 6) (5 * (N 7 1)) a)) 6 (zu (zu (N 6) (5 * (N 7 1)) a) ((5 * (N 7 1)) + 1) b)) 6 (zu (zu (zu (N 6) (5 * (N 7 1)) a) ((5 * (N 7 1)) + 1) b) ((5 * (N 7 1)) + 2) d)) 6 (zu (zu (zu (zu (N 6) (5 * (N 7 1)) a) ((5 * (N 7 1)) + 1) b) ((5 * (N 7 1)) + 2) d) ((5 * (N 7 1)) + 3) v)) 6 (zu (zu (zu (zu (zu (N 6) (5 * (N 7 1)) a) ((5 * (N 7 1)) + 1) b) ((5 * (N 7 1)) + 2) d) ((5 * (N 7 1)) + 3) v) ((5 * (N 7 1)) + 4) w)) 7) 1 ((N 7 1) + 1)))))))))
set_option maxHeartbeats 4000000 in
set_option maxRecDepth 100000 in
theorem k_M_box (l : Launch) (dC : Nat → ClassId) (dI : Nat → Nat → Nat) (ad : Nat → Nat) (cI : ClassId) (N : Nat → Int → Int) (k0 k1 k2 k3 : Int) (hI : jN N) (hj : zJ 8 ad) (a b d v w : Int) (hb_a : zB (-2147483648) 2147483647 a) (hb_b : zB (-2147483648) 2147483647 b) (hb_d : zB (-2147483648) 2147483647 d) (hb_v : zB (-2147483648) 2147483647 v) (hb_w : zB (-2147483648) 2147483647 w) : Met l y_M_box (Cond.code y_M_box c_M_box 6 (some .int) :: zT) { frames := 2, cells := 0, slots := 0, locals := 43 } (va_Pc ([.ref (ad 0), .int (zi a), .int (zi b), .int (zi d), .int (zi v), .int (zi w)] : List Value) (zWM dC dI ad cI N k0 k1 k2 k3)) (zQ (some (.int (zi (f_M_box N a b d v w).1))) (fun H => va_P (dC, dI) classes (wM ad cI (f_M_box N a b d v w).2 k0 k1 k2 k3) H) (zAM ad)) 0 0 (zAM ad) := by
  refine zh (cc := c_M_box) (C := R_M) (by decide) rfl rfl (Nat.le_of_ble_eq_true rfl) ?_
  intro p e s m below meth c ls hx hb hr hlocks hml hown hname hts hl hB
  have hw : ∀ w9 ∈ zT, w9.before ([.ref (ad 0), .int (zi a), .int (zi b), .int (zi d), .int (zi v), .int (zi w)] : List Value).toArray s = true := fun w9 h => hts w9 (List.mem_cons_of_mem _ h)
  obtain ⟨hP, hK⟩ := hB
  obtain ⟨hn0, hn1⟩ := id (jN_s0 hI)
  have hD := zDM hj cI
  have hS : va_S (zAM ad) s.heap s.heap [] := va_S.rf
  obtain ⟨hz0, hz1⟩ := id (jN_s1 hI)
  obtain ⟨hl_a, hh_a⟩ := id hb_a
  obtain ⟨hl_b, hh_b⟩ := id hb_b
  obtain ⟨hl_d, hh_d⟩ := id hb_d
  obtain ⟨hl_v, hh_v⟩ := id hb_v
  obtain ⟨hl_w, hh_w⟩ := id hb_w
  generalize hq : f_M_box N a b d v w = r
  unfold f_M_box at hq
  replace hl : lv_has ls 6 [(0, .ref (ad 0)), (1, .int (zi a)), (2, .int (zi b)), (3, .int (zi d)), (4, .int (zi v)), (5, .int (zi w))] := hl
  refine lv_iload_n hx hb d_M_box_0 rfl (lv_at hl 1 rfl) ?_
  refine lv_iload_n hx hb d_M_box_1 rfl (lv_at hl 2 rfl) ?_
  refine zc_n (va_runS (As := [.int (zi a), .int (zi b)]) (rest := []) ⟨hx, hb, hml, hown, hts⟩ (k_M_isPoint l a b (zB.w hb_a (by decide) (by decide)) (zB.w hb_b (by decide) (by decide)) ) (zcS 2 hts m_249 m_3 m_247 m_248 rfl rfl q_M_isPoint ⟨Nat.le_of_ble_eq_true rfl, Nat.le_of_ble_eq_true rfl⟩) (zp0 [.int (zi a), .int (zi b)]) rfl rfl hl.1 rfl (lv_room (Nat.le_of_ble_eq_true rfl)) d_M_box_2 ⟨Nat.zero_le _, Nat.zero_le _⟩) ?_
  refine zr_if_eq (tgt := 49) hx hb (zB.I (bb_M_isPoint a b) (by decide) (by decide)) d_M_box_5 (by decide) (fun c_1 => ?_) (fun c_1 => ?_)
  · replace hq := (if_pos c_1).symm.trans hq
    have r_2 : zB 0 0 (f_M_isPoint a b) := ⟨(Int.le_of_eq c_1.symm), (Int.le_of_eq c_1)⟩
    refine lv_iconst (v := zi (-1)) hx hb d_M_box_49 rfl ?_
    subst hq
    exact zw_i hx hb hr hlocks rfl hP hS d_M_box_50
  · replace hq := (if_neg c_1).symm.trans hq
    have r_3 : zB 1 1 (f_M_isPoint a b) := ⟨(by have := (bb_M_isPoint a b).1; omega), (bb_M_isPoint a b).2⟩
    have g_4 := gf_M_isPoint c_1
    obtain ⟨g_4l0, g_4h0⟩ := id g_4.1
    obtain ⟨g_4l1, g_4h1⟩ := id g_4.2
    refine lv_iload_n hx hb d_M_box_8 rfl (lv_at hl 3 rfl) ?_
    refine lv_iload hx hb d_M_box_9 (lv_at hl 4 rfl) ?_
    refine zc_n (va_runS (As := [.int (zi d), .int (zi v)]) (rest := []) ⟨hx, hb, hml, hown, hts⟩ (k_M_isPoint l d v (zB.w hb_d (by decide) (by decide)) (zB.w hb_v (by decide) (by decide)) ) (zcS 2 hts m_249 m_3 m_247 m_248 rfl rfl q_M_isPoint ⟨Nat.le_of_ble_eq_true rfl, Nat.le_of_ble_eq_true rfl⟩) (zp0 [.int (zi d), .int (zi v)]) rfl rfl hl.1 rfl (lv_room (Nat.le_of_ble_eq_true rfl)) d_M_box_11 ⟨Nat.zero_le _, Nat.zero_le _⟩) ?_
    refine zr_if_eq (tgt := 49) hx hb (zB.I (bb_M_isPoint d v) (by decide) (by decide)) d_M_box_14 (by decide) (fun c_5 => ?_) (fun c_5 => ?_)
    · replace hq := (if_pos c_5).symm.trans hq
      have r_6 : zB 0 0 (f_M_isPoint d v) := ⟨(Int.le_of_eq c_5.symm), (Int.le_of_eq c_5)⟩
      refine lv_iconst (v := zi (-1)) hx hb d_M_box_49 rfl ?_
      subst hq
      exact zw_i hx hb hr hlocks rfl hP hS d_M_box_50
    · replace hq := (if_neg c_5).symm.trans hq
      have r_7 : zB 1 1 (f_M_isPoint d v) := ⟨(by have := (bb_M_isPoint d v).1; omega), (bb_M_isPoint d v).2⟩
      have g_8 := gf_M_isPoint c_5
      obtain ⟨g_8l0, g_8h0⟩ := id g_8.1
      obtain ⟨g_8l1, g_8h1⟩ := id g_8.2
      refine lv_iload_n hx hb d_M_box_17 rfl (lv_at hl 1 rfl) ?_
      refine lv_iload_n hx hb d_M_box_18 rfl (lv_at hl 3 rfl) ?_
      refine zr_icmp_gt (tgt := 49) hx hb (zB.I g_4.1 (by decide) (by decide)) (zB.I g_8.1 (by decide) (by decide)) d_M_box_19 (by decide) (fun c_9 => ?_) (fun c_9 => ?_)
      · replace hq := (if_pos c_9).symm.trans hq
        refine lv_iconst (v := zi (-1)) hx hb d_M_box_49 rfl ?_
        subst hq
        exact zw_i hx hb hr hlocks rfl hP hS d_M_box_50
      · replace hq := (if_neg c_9).symm.trans hq
        refine lv_iload_n hx hb d_M_box_22 rfl (lv_at hl 2 rfl) ?_
        refine lv_iload hx hb d_M_box_23 (lv_at hl 4 rfl) ?_
        refine zr_icmp_gt (tgt := 49) hx hb (zB.I g_4.2 (by decide) (by decide)) (zB.I g_8.2 (by decide) (by decide)) d_M_box_25 (by decide) (fun c_10 => ?_) (fun c_10 => ?_)
        · replace hq := (if_pos c_10).symm.trans hq
          refine lv_iconst (v := zi (-1)) hx hb d_M_box_49 rfl ?_
          subst hq
          exact zw_i hx hb hr hlocks rfl hP hS d_M_box_50
        · replace hq := (if_neg c_10).symm.trans hq
          refine lv_iload hx hb d_M_box_28 (lv_at hl 5 rfl) ?_
          refine lv_ldc (v := zi (-100000)) hx hb hown (hw _ m_253) d_M_box_30 ?_
          refine lv_ldc (v := zi 100000) hx hb hown (hw _ m_254) d_M_box_32 ?_
          refine zc_n (va_runS (As := [.int (zi w), .int (zi (-100000)), .int (zi 100000)]) (rest := []) ⟨hx, hb, hml, hown, hts⟩ (k_M_within l w (-100000) 100000 (zB.w hb_w (by decide) (by decide)) (zB.w (zb_c (-100000)) (by decide) (by decide)) (zB.w (zb_c 100000) (by decide) (by decide)) ) (zcS 3 hts m_252 m_3 m_250 m_251 rfl rfl q_M_within ⟨Nat.le_of_ble_eq_true rfl, Nat.le_of_ble_eq_true rfl⟩) (zp0 [.int (zi w), .int (zi (-100000)), .int (zi 100000)]) rfl rfl hl.1 rfl (lv_room (Nat.le_of_ble_eq_true rfl)) d_M_box_34 ⟨Nat.zero_le _, Nat.zero_le _⟩) ?_
          refine zr_if_eq (tgt := 49) hx hb (zB.I (bb_M_within w (-100000) 100000) (by decide) (by decide)) d_M_box_37 (by decide) (fun c_11 => ?_) (fun c_11 => ?_)
          · replace hq := (if_pos c_11).symm.trans hq
            have r_12 : zB 0 0 (f_M_within w (-100000) 100000) := ⟨(Int.le_of_eq c_11.symm), (Int.le_of_eq c_11)⟩
            refine lv_iconst (v := zi (-1)) hx hb d_M_box_49 rfl ?_
            subst hq
            exact zw_i hx hb hr hlocks rfl hP hS d_M_box_50
          · replace hq := (if_neg c_11).symm.trans hq
            have r_13 : zB 1 1 (f_M_within w (-100000) 100000) := ⟨(by have := (bb_M_within w (-100000) 100000).1; omega), (bb_M_within w (-100000) 100000).2⟩
            have g_14 := gf_M_within c_11
            obtain ⟨g_14l, g_14h⟩ := id g_14
            refine lv_aload_n hx hb d_M_box_40 rfl (lv_at hl 0 rfl) ?_
            refine va_get (D := (dC, dI)) (ci := 2) (v := .int (zi (N 7 1))) (C := R_M) (T := T_M) (N := 17) hx hb hw i_M hown hK hP 0 rfl rfl 7 (by decide) (hw _ m_233) (fun _ h9 => h9) rfl d_M_box_41 ?_
            refine lv_bipush (v := zi 8) hx hb d_M_box_44 (by decide) ?_
            refine zr_icmp_ne (tgt := 51) hx hb (zB.I (jN_s1 hI) (by decide) (by decide)) (zB.I (zb_c 8) (by decide) (by decide)) d_M_box_46 (by decide) (fun c_15 => ?_) (fun c_15 => ?_)
            · replace hq := (if_neg c_15).symm.trans hq
              refine lv_aload_n hx hb d_M_box_51 rfl (lv_at hl 0 rfl) ?_
              refine va_get (D := (dC, dI)) (ci := 2) (v := .ref (ad 7)) (C := R_M) (T := T_M) (N := 17) hx hb hw i_M hown hK hP 0 rfl rfl 8 (by decide) (hw _ m_234) (fun _ h9 => h9) rfl d_M_box_52 ?_
              refine lv_iconst (v := zi 5) hx hb d_M_box_55 rfl ?_
              refine lv_aload_n hx hb d_M_box_56 rfl (lv_at hl 0 rfl) ?_
              refine va_get (D := (dC, dI)) (ci := 2) (v := .int (zi (N 7 1))) (C := R_M) (T := T_M) (N := 17) hx hb hw i_M hown hK hP 0 rfl rfl 7 (by decide) (hw _ m_233) (fun _ h9 => h9) rfl d_M_box_57 ?_
              have b_16 : zB 0 40 (5 * (N 7 1)) := zB.w (zb_mulq (zb_c 5) (jN_s1 hI) (by decide) (by decide)) (by decide) (by decide)
              refine zr_imul hx hb d_M_box_60 ?_
              refine lv_iload_n hx hb d_M_box_61 rfl (lv_at hl 1 rfl) ?_
              refine zr_iast hx hb hK hP (hD _ _ _ _ _) hS 7 0 (cA := cI) (n := 40) (g := N 6) rfl rfl (i := 5 * (N 7 1)) (v := a) (by omega) (by omega) (by decide) d_M_box_62 (fun H locs hP _ hS => ?_)
              replace hP : va_P (dC, dI) classes (wM ad cI (zs N 6 (zu (N 6) (5 * (N 7 1)) a)) k0 k1 k2 k3) H := hP
              refine lv_aload_n hx hb d_M_box_63 rfl (lv_at hl 0 rfl) ?_
              refine va_get (D := (dC, dI)) (ci := 2) (v := .ref (ad 7)) (C := R_M) (T := T_M) (N := 17) hx hb hw i_M hown hK hP 0 rfl rfl 8 (by decide) (hw _ m_234) (fun _ h9 => h9) rfl d_M_box_64 ?_
              refine lv_iconst (v := zi 5) hx hb d_M_box_67 rfl ?_
              refine lv_aload_n hx hb d_M_box_68 rfl (lv_at hl 0 rfl) ?_
              refine va_get (D := (dC, dI)) (ci := 2) (v := .int (zi (N 7 1))) (C := R_M) (T := T_M) (N := 17) hx hb hw i_M hown hK hP 0 rfl rfl 7 (by decide) (hw _ m_233) (fun _ h9 => h9) rfl d_M_box_69 ?_
              refine zr_imul hx hb d_M_box_72 ?_
              refine lv_iconst (v := zi 1) hx hb d_M_box_73 rfl ?_
              have b_17 : zB 1 41 ((5 * (N 7 1)) + 1) := zB.w (zb_add b_16 (zb_c 1)) (by decide) (by decide)
              refine zr_iadd hx hb d_M_box_74 ?_
              refine lv_iload_n hx hb d_M_box_75 rfl (lv_at hl 2 rfl) ?_
              refine zr_iast hx hb hK hP (hD _ _ _ _ _) hS 7 0 (cA := cI) (n := 40) (g := zu (N 6) (5 * (N 7 1)) a) rfl rfl (i := (5 * (N 7 1)) + 1) (v := b) (by omega) (by omega) (by decide) d_M_box_76 (fun H locs hP _ hS => ?_)
              replace hP : va_P (dC, dI) classes (wM ad cI (zs (zs N 6 (zu (N 6) (5 * (N 7 1)) a)) 6 (zu (zu (N 6) (5 * (N 7 1)) a) ((5 * (N 7 1)) + 1) b)) k0 k1 k2 k3) H := hP
              refine lv_aload_n hx hb d_M_box_77 rfl (lv_at hl 0 rfl) ?_
              refine va_get (D := (dC, dI)) (ci := 2) (v := .ref (ad 7)) (C := R_M) (T := T_M) (N := 17) hx hb hw i_M hown hK hP 0 rfl rfl 8 (by decide) (hw _ m_234) (fun _ h9 => h9) rfl d_M_box_78 ?_
              refine lv_iconst (v := zi 5) hx hb d_M_box_81 rfl ?_
              refine lv_aload_n hx hb d_M_box_82 rfl (lv_at hl 0 rfl) ?_
              refine va_get (D := (dC, dI)) (ci := 2) (v := .int (zi (N 7 1))) (C := R_M) (T := T_M) (N := 17) hx hb hw i_M hown hK hP 0 rfl rfl 7 (by decide) (hw _ m_233) (fun _ h9 => h9) rfl d_M_box_83 ?_
              refine zr_imul hx hb d_M_box_86 ?_
              refine lv_iconst (v := zi 2) hx hb d_M_box_87 rfl ?_
              have b_18 : zB 2 42 ((5 * (N 7 1)) + 2) := zB.w (zb_add b_16 (zb_c 2)) (by decide) (by decide)
              refine zr_iadd hx hb d_M_box_88 ?_
              refine lv_iload_n hx hb d_M_box_89 rfl (lv_at hl 3 rfl) ?_
              refine zr_iast hx hb hK hP (hD _ _ _ _ _) hS 7 0 (cA := cI) (n := 40) (g := zu (zu (N 6) (5 * (N 7 1)) a) ((5 * (N 7 1)) + 1) b) rfl rfl (i := (5 * (N 7 1)) + 2) (v := d) (by omega) (by omega) (by decide) d_M_box_90 (fun H locs hP _ hS => ?_)
              replace hP : va_P (dC, dI) classes (wM ad cI (zs (zs (zs N 6 (zu (N 6) (5 * (N 7 1)) a)) 6 (zu (zu (N 6) (5 * (N 7 1)) a) ((5 * (N 7 1)) + 1) b)) 6 (zu (zu (zu (N 6) (5 * (N 7 1)) a) ((5 * (N 7 1)) + 1) b) ((5 * (N 7 1)) + 2) d)) k0 k1 k2 k3) H := hP
              refine lv_aload_n hx hb d_M_box_91 rfl (lv_at hl 0 rfl) ?_
              refine va_get (D := (dC, dI)) (ci := 2) (v := .ref (ad 7)) (C := R_M) (T := T_M) (N := 17) hx hb hw i_M hown hK hP 0 rfl rfl 8 (by decide) (hw _ m_234) (fun _ h9 => h9) rfl d_M_box_92 ?_
              refine lv_iconst (v := zi 5) hx hb d_M_box_95 rfl ?_
              refine lv_aload_n hx hb d_M_box_96 rfl (lv_at hl 0 rfl) ?_
              refine va_get (D := (dC, dI)) (ci := 2) (v := .int (zi (N 7 1))) (C := R_M) (T := T_M) (N := 17) hx hb hw i_M hown hK hP 0 rfl rfl 7 (by decide) (hw _ m_233) (fun _ h9 => h9) rfl d_M_box_97 ?_
              refine zr_imul hx hb d_M_box_100 ?_
              refine lv_iconst (v := zi 3) hx hb d_M_box_101 rfl ?_
              have b_19 : zB 3 43 ((5 * (N 7 1)) + 3) := zB.w (zb_add b_16 (zb_c 3)) (by decide) (by decide)
              refine zr_iadd hx hb d_M_box_102 ?_
              refine lv_iload hx hb d_M_box_103 (lv_at hl 4 rfl) ?_
              refine zr_iast hx hb hK hP (hD _ _ _ _ _) hS 7 0 (cA := cI) (n := 40) (g := zu (zu (zu (N 6) (5 * (N 7 1)) a) ((5 * (N 7 1)) + 1) b) ((5 * (N 7 1)) + 2) d) rfl rfl (i := (5 * (N 7 1)) + 3) (v := v) (by omega) (by omega) (by decide) d_M_box_105 (fun H locs hP _ hS => ?_)
              replace hP : va_P (dC, dI) classes (wM ad cI (zs (zs (zs (zs N 6 (zu (N 6) (5 * (N 7 1)) a)) 6 (zu (zu (N 6) (5 * (N 7 1)) a) ((5 * (N 7 1)) + 1) b)) 6 (zu (zu (zu (N 6) (5 * (N 7 1)) a) ((5 * (N 7 1)) + 1) b) ((5 * (N 7 1)) + 2) d)) 6 (zu (zu (zu (zu (N 6) (5 * (N 7 1)) a) ((5 * (N 7 1)) + 1) b) ((5 * (N 7 1)) + 2) d) ((5 * (N 7 1)) + 3) v)) k0 k1 k2 k3) H := hP
              refine lv_aload_n hx hb d_M_box_106 rfl (lv_at hl 0 rfl) ?_
              refine va_get (D := (dC, dI)) (ci := 2) (v := .ref (ad 7)) (C := R_M) (T := T_M) (N := 17) hx hb hw i_M hown hK hP 0 rfl rfl 8 (by decide) (hw _ m_234) (fun _ h9 => h9) rfl d_M_box_107 ?_
              refine lv_iconst (v := zi 5) hx hb d_M_box_110 rfl ?_
              refine lv_aload_n hx hb d_M_box_111 rfl (lv_at hl 0 rfl) ?_
              refine va_get (D := (dC, dI)) (ci := 2) (v := .int (zi (N 7 1))) (C := R_M) (T := T_M) (N := 17) hx hb hw i_M hown hK hP 0 rfl rfl 7 (by decide) (hw _ m_233) (fun _ h9 => h9) rfl d_M_box_112 ?_
              refine zr_imul hx hb d_M_box_115 ?_
              refine lv_iconst (v := zi 4) hx hb d_M_box_116 rfl ?_
              have b_20 : zB 4 44 ((5 * (N 7 1)) + 4) := zB.w (zb_add b_16 (zb_c 4)) (by decide) (by decide)
              refine zr_iadd hx hb d_M_box_117 ?_
              refine lv_iload hx hb d_M_box_118 (lv_at hl 5 rfl) ?_
              refine zr_iast hx hb hK hP (hD _ _ _ _ _) hS 7 0 (cA := cI) (n := 40) (g := zu (zu (zu (zu (N 6) (5 * (N 7 1)) a) ((5 * (N 7 1)) + 1) b) ((5 * (N 7 1)) + 2) d) ((5 * (N 7 1)) + 3) v) rfl rfl (i := (5 * (N 7 1)) + 4) (v := w) (by omega) (by omega) (by decide) d_M_box_120 (fun H locs hP _ hS => ?_)
              replace hP : va_P (dC, dI) classes (wM ad cI (zs (zs (zs (zs (zs N 6 (zu (N 6) (5 * (N 7 1)) a)) 6 (zu (zu (N 6) (5 * (N 7 1)) a) ((5 * (N 7 1)) + 1) b)) 6 (zu (zu (zu (N 6) (5 * (N 7 1)) a) ((5 * (N 7 1)) + 1) b) ((5 * (N 7 1)) + 2) d)) 6 (zu (zu (zu (zu (N 6) (5 * (N 7 1)) a) ((5 * (N 7 1)) + 1) b) ((5 * (N 7 1)) + 2) d) ((5 * (N 7 1)) + 3) v)) 6 (zu (zu (zu (zu (zu (N 6) (5 * (N 7 1)) a) ((5 * (N 7 1)) + 1) b) ((5 * (N 7 1)) + 2) d) ((5 * (N 7 1)) + 3) v) ((5 * (N 7 1)) + 4) w)) k0 k1 k2 k3) H := hP
              refine lv_aload_n hx hb d_M_box_121 rfl (lv_at hl 0 rfl) ?_
              refine lv_dup hx hb d_M_box_122 rfl ?_
              refine va_get (D := (dC, dI)) (ci := 2) (v := .int (zi (N 7 1))) (C := R_M) (T := T_M) (N := 17) hx hb hw i_M hown hK hP 0 rfl rfl 7 (by decide) (hw _ m_233) (fun _ h9 => h9) rfl d_M_box_123 ?_
              refine lv_iconst (v := zi 1) hx hb d_M_box_126 rfl ?_
              have b_21 : zB 1 9 ((N 7 1) + 1) := zB.w (zb_add (jN_s1 hI) (zb_c 1)) (by decide) (by decide)
              refine zr_iadd hx hb d_M_box_127 ?_
              refine va_put (D := (dC, dI)) (ci := 2) (v := .int (zi ((N 7 1) + 1))) (ty := .int) (C := R_M) (T := T_M) (N := 17) hx hb hw i_M t_M ty_M nm_M hown hK hP (hD _ _ _ _ _) hS 0 rfl rfl 7 (by decide) (hw _ m_233) (fun _ h9 => h9) rfl (by decide +kernel) rfl rfl (Nat.le_of_ble_eq_true rfl) d_M_box_128 (fun H locs hP _ hS => ?_)
              replace hP : va_P (dC, dI) classes (wM ad cI (zs (zs (zs (zs (zs (zs N 6 (zu (N 6) (5 * (N 7 1)) a)) 6 (zu (zu (N 6) (5 * (N 7 1)) a) ((5 * (N 7 1)) + 1) b)) 6 (zu (zu (zu (N 6) (5 * (N 7 1)) a) ((5 * (N 7 1)) + 1) b) ((5 * (N 7 1)) + 2) d)) 6 (zu (zu (zu (zu (N 6) (5 * (N 7 1)) a) ((5 * (N 7 1)) + 1) b) ((5 * (N 7 1)) + 2) d) ((5 * (N 7 1)) + 3) v)) 6 (zu (zu (zu (zu (zu (N 6) (5 * (N 7 1)) a) ((5 * (N 7 1)) + 1) b) ((5 * (N 7 1)) + 2) d) ((5 * (N 7 1)) + 3) v) ((5 * (N 7 1)) + 4) w)) 7 (zu ((zs (zs (zs (zs (zs N 6 (zu (N 6) (5 * (N 7 1)) a)) 6 (zu (zu (N 6) (5 * (N 7 1)) a) ((5 * (N 7 1)) + 1) b)) 6 (zu (zu (zu (N 6) (5 * (N 7 1)) a) ((5 * (N 7 1)) + 1) b) ((5 * (N 7 1)) + 2) d)) 6 (zu (zu (zu (zu (N 6) (5 * (N 7 1)) a) ((5 * (N 7 1)) + 1) b) ((5 * (N 7 1)) + 2) d) ((5 * (N 7 1)) + 3) v)) 6 (zu (zu (zu (zu (zu (N 6) (5 * (N 7 1)) a) ((5 * (N 7 1)) + 1) b) ((5 * (N 7 1)) + 2) d) ((5 * (N 7 1)) + 3) v) ((5 * (N 7 1)) + 4) w)) 7) 1 ((N 7 1) + 1))) k0 k1 k2 k3) H := hP
              refine lv_aload_n hx hb d_M_box_131 rfl (lv_at hl 0 rfl) ?_
              refine va_get (D := (dC, dI)) (ci := 2) (v := .int (zi ((N 7 1) + 1))) (C := R_M) (T := T_M) (N := 17) hx hb hw i_M hown hK hP 0 rfl rfl 7 (by decide) (hw _ m_233) (fun _ h9 => h9) rfl d_M_box_132 ?_
              refine lv_iconst (v := zi 1) hx hb d_M_box_135 rfl ?_
              have b_22 : zB 0 8 (((N 7 1) + 1) - 1) := zB.w (zb_sub b_21 (zb_c 1)) (by decide) (by decide)
              refine zr_isub hx hb d_M_box_136 ?_
              subst hq
              exact zw_i hx hb hr hlocks rfl hP hS d_M_box_137
            · replace hq := (if_pos c_15).symm.trans hq
              have r_23 : zB 8 8 (N 7 1) := ⟨(Int.le_of_eq c_15.symm), (Int.le_of_eq c_15)⟩
              refine lv_iconst (v := zi (-1)) hx hb d_M_box_49 rfl ?_
              subst hq
              exact zw_i hx hb hr hlocks rfl hP hS d_M_box_50
def f_M_station (N : Nat → Int → Int) (a b d : Int) : Int × (Nat → Int → Int) := if (f_M_isPoint a b) = 0 then ((-1, N)) else (if (f_M_within d (-100000) 100000) = 0 then ((-1, N)) else (if (N 7 0) = 60 then ((-1, N)) else (if 0 < (N 7 0) then (if (f_M_root ((f_M_square (a - ((zu (N 0) (N 7 0) a) ((N 7 0) - 1)))) + (f_M_square (b - ((zu (N 1) (N 7 0) b) ((N 7 0) - 1)))))) < 1 then ((N 7 0, zs (zs (zs (zs (zs (zs (zs (zs N 0 (zu (N 0) (N 7 0) a)) 1 (zu (N 1) (N 7 0) b)) 2 (zu (N 2) (N 7 0) d)) 4 (zu (N 4) (N 7 0) 50)) 5 (zu (N 5) (2 * (N 7 0)) (-1))) 5 (zu (zu (N 5) (2 * (N 7 0)) (-1)) ((2 * (N 7 0)) + 1) (-1))) 3 (zu (N 3) (N 7 0) ((N 3 ((N 7 0) - 1)) + 1))) 7 (zu ((zs (zs (zs (zs (zs (zs (zs N 0 (zu (N 0) (N 7 0) a)) 1 (zu (N 1) (N 7 0) b)) 2 (zu (N 2) (N 7 0) d)) 4 (zu (N 4) (N 7 0) 50)) 5 (zu (N 5) (2 * (N 7 0)) (-1))) 5 (zu (zu (N 5) (2 * (N 7 0)) (-1)) ((2 * (N 7 0)) + 1) (-1))) 3 (zu (N 3) (N 7 0) ((N 3 ((N 7 0) - 1)) + 1))) 7) 0 ((N 7 0) + 1)))) else ((N 7 0, zs (zs (zs (zs (zs (zs (zs (zs N 0 (zu (N 0) (N 7 0) a)) 1 (zu (N 1) (N 7 0) b)) 2 (zu (N 2) (N 7 0) d)) 4 (zu (N 4) (N 7 0) 50)) 5 (zu (N 5) (2 * (N 7 0)) (-1))) 5 (zu (zu (N 5) (2 * (N 7 0)) (-1)) ((2 * (N 7 0)) + 1) (-1))) 3 (zu (N 3) (N 7 0) ((N 3 ((N 7 0) - 1)) + (f_M_root ((f_M_square (a - ((zu (N 0) (N 7 0) a) ((N 7 0) - 1)))) + (f_M_square (b - ((zu (N 1) (N 7 0) b) ((N 7 0) - 1))))))))) 7 (zu ((zs (zs (zs (zs (zs (zs (zs N 0 (zu (N 0) (N 7 0) a)) 1 (zu (N 1) (N 7 0) b)) 2 (zu (N 2) (N 7 0) d)) 4 (zu (N 4) (N 7 0) 50)) 5 (zu (N 5) (2 * (N 7 0)) (-1))) 5 (zu (zu (N 5) (2 * (N 7 0)) (-1)) ((2 * (N 7 0)) + 1) (-1))) 3 (zu (N 3) (N 7 0) ((N 3 ((N 7 0) - 1)) + (f_M_root ((f_M_square (a - ((zu (N 0) (N 7 0) a) ((N 7 0) - 1)))) + (f_M_square (b - ((zu (N 1) (N 7 0) b) ((N 7 0) - 1))))))))) 7) 0 ((N 7 0) + 1))))) else ((N 7 0, zs (zs (zs (zs (zs (zs (zs N 0 (zu (N 0) (N 7 0) a)) 1 (zu (N 1) (N 7 0) b)) 2 (zu (N 2) (N 7 0) d)) 4 (zu (N 4) (N 7 0) 50)) 5 (zu (N 5) (2 * (N 7 0)) (-1))) 5 (zu (zu (N 5) (2 * (N 7 0)) (-1)) ((2 * (N 7 0)) + 1) (-1))) 7 (zu ((zs (zs (zs (zs (zs (zs N 0 (zu (N 0) (N 7 0) a)) 1 (zu (N 1) (N 7 0) b)) 2 (zu (N 2) (N 7 0) d)) 4 (zu (N 4) (N 7 0) 50)) 5 (zu (N 5) (2 * (N 7 0)) (-1))) 5 (zu (zu (N 5) (2 * (N 7 0)) (-1)) ((2 * (N 7 0)) + 1) (-1))) 7) 0 ((N 7 0) + 1)))))))
set_option maxHeartbeats 4000000 in
set_option maxRecDepth 100000 in
theorem k_M_station (l : Launch) (dC : Nat → ClassId) (dI : Nat → Nat → Nat) (ad : Nat → Nat) (cI : ClassId) (N : Nat → Int → Int) (k0 k1 k2 k3 : Int) (hI : jN N) (hj : zJ 8 ad) (a b d : Int) (hb_a : zB (-2147483648) 2147483647 a) (hb_b : zB (-2147483648) 2147483647 b) (hb_d : zB (-2147483648) 2147483647 d) : Met l y_M_station (Cond.code y_M_station c_M_station 6 (some .int) :: zT) { frames := 2, cells := 0, slots := 0, locals := 43 } (va_Pc ([.ref (ad 0), .int (zi a), .int (zi b), .int (zi d)] : List Value) (zWM dC dI ad cI N k0 k1 k2 k3)) (zQ (some (.int (zi (f_M_station N a b d).1))) (fun H => va_P (dC, dI) classes (wM ad cI (f_M_station N a b d).2 k0 k1 k2 k3) H) (zAM ad)) 0 0 (zAM ad) := by
  refine zh (cc := c_M_station) (C := R_M) (by decide) rfl rfl (Nat.le_of_ble_eq_true rfl) ?_
  intro p e s m below meth c ls hx hb hr hlocks hml hown hname hts hl hB
  have hw : ∀ w9 ∈ zT, w9.before ([.ref (ad 0), .int (zi a), .int (zi b), .int (zi d)] : List Value).toArray s = true := fun w9 h => hts w9 (List.mem_cons_of_mem _ h)
  obtain ⟨hP, hK⟩ := hB
  obtain ⟨hn0, hn1⟩ := id (jN_s0 hI)
  have hD := zDM hj cI
  have hS : va_S (zAM ad) s.heap s.heap [] := va_S.rf
  obtain ⟨hz0, hz1⟩ := id (jN_s1 hI)
  obtain ⟨hl_a, hh_a⟩ := id hb_a
  obtain ⟨hl_b, hh_b⟩ := id hb_b
  obtain ⟨hl_d, hh_d⟩ := id hb_d
  generalize hq : f_M_station N a b d = r
  unfold f_M_station at hq
  replace hl : lv_has ls 6 [(0, .ref (ad 0)), (1, .int (zi a)), (2, .int (zi b)), (3, .int (zi d))] := hl
  refine lv_iload_n hx hb d_M_station_0 rfl (lv_at hl 1 rfl) ?_
  refine lv_iload_n hx hb d_M_station_1 rfl (lv_at hl 2 rfl) ?_
  refine zc_n (va_runS (As := [.int (zi a), .int (zi b)]) (rest := []) ⟨hx, hb, hml, hown, hts⟩ (k_M_isPoint l a b (zB.w hb_a (by decide) (by decide)) (zB.w hb_b (by decide) (by decide)) ) (zcS 2 hts m_249 m_3 m_247 m_248 rfl rfl q_M_isPoint ⟨Nat.le_of_ble_eq_true rfl, Nat.le_of_ble_eq_true rfl⟩) (zp0 [.int (zi a), .int (zi b)]) rfl rfl hl.1 rfl (lv_room (Nat.le_of_ble_eq_true rfl)) d_M_station_2 ⟨Nat.zero_le _, Nat.zero_le _⟩) ?_
  refine zr_if_eq (tgt := 28) hx hb (zB.I (bb_M_isPoint a b) (by decide) (by decide)) d_M_station_5 (by decide) (fun c_1 => ?_) (fun c_1 => ?_)
  · replace hq := (if_pos c_1).symm.trans hq
    have r_2 : zB 0 0 (f_M_isPoint a b) := ⟨(Int.le_of_eq c_1.symm), (Int.le_of_eq c_1)⟩
    refine lv_iconst (v := zi (-1)) hx hb d_M_station_28 rfl ?_
    subst hq
    exact zw_i hx hb hr hlocks rfl hP hS d_M_station_29
  · replace hq := (if_neg c_1).symm.trans hq
    have r_3 : zB 1 1 (f_M_isPoint a b) := ⟨(by have := (bb_M_isPoint a b).1; omega), (bb_M_isPoint a b).2⟩
    have g_4 := gf_M_isPoint c_1
    obtain ⟨g_4l0, g_4h0⟩ := id g_4.1
    obtain ⟨g_4l1, g_4h1⟩ := id g_4.2
    refine lv_iload_n hx hb d_M_station_8 rfl (lv_at hl 3 rfl) ?_
    refine lv_ldc (v := zi (-100000)) hx hb hown (hw _ m_253) d_M_station_9 ?_
    refine lv_ldc (v := zi 100000) hx hb hown (hw _ m_254) d_M_station_11 ?_
    refine zc_n (va_runS (As := [.int (zi d), .int (zi (-100000)), .int (zi 100000)]) (rest := []) ⟨hx, hb, hml, hown, hts⟩ (k_M_within l d (-100000) 100000 (zB.w hb_d (by decide) (by decide)) (zB.w (zb_c (-100000)) (by decide) (by decide)) (zB.w (zb_c 100000) (by decide) (by decide)) ) (zcS 3 hts m_252 m_3 m_250 m_251 rfl rfl q_M_within ⟨Nat.le_of_ble_eq_true rfl, Nat.le_of_ble_eq_true rfl⟩) (zp0 [.int (zi d), .int (zi (-100000)), .int (zi 100000)]) rfl rfl hl.1 rfl (lv_room (Nat.le_of_ble_eq_true rfl)) d_M_station_13 ⟨Nat.zero_le _, Nat.zero_le _⟩) ?_
    refine zr_if_eq (tgt := 28) hx hb (zB.I (bb_M_within d (-100000) 100000) (by decide) (by decide)) d_M_station_16 (by decide) (fun c_5 => ?_) (fun c_5 => ?_)
    · replace hq := (if_pos c_5).symm.trans hq
      have r_6 : zB 0 0 (f_M_within d (-100000) 100000) := ⟨(Int.le_of_eq c_5.symm), (Int.le_of_eq c_5)⟩
      refine lv_iconst (v := zi (-1)) hx hb d_M_station_28 rfl ?_
      subst hq
      exact zw_i hx hb hr hlocks rfl hP hS d_M_station_29
    · replace hq := (if_neg c_5).symm.trans hq
      have r_7 : zB 1 1 (f_M_within d (-100000) 100000) := ⟨(by have := (bb_M_within d (-100000) 100000).1; omega), (bb_M_within d (-100000) 100000).2⟩
      have g_8 := gf_M_within c_5
      obtain ⟨g_8l, g_8h⟩ := id g_8
      refine lv_aload_n hx hb d_M_station_19 rfl (lv_at hl 0 rfl) ?_
      refine va_get (D := (dC, dI)) (ci := 2) (v := .int (zi (N 7 0))) (C := R_M) (T := T_M) (N := 17) hx hb hw i_M hown hK hP 0 rfl rfl 0 (by decide) (hw _ m_226) (fun _ h9 => h9) rfl d_M_station_20 ?_
      refine lv_bipush (v := zi 60) hx hb d_M_station_23 (by decide) ?_
      refine zr_icmp_ne (tgt := 30) hx hb (zB.I (jN_s0 hI) (by decide) (by decide)) (zB.I (zb_c 60) (by decide) (by decide)) d_M_station_25 (by decide) (fun c_9 => ?_) (fun c_9 => ?_)
      · replace hq := (if_neg c_9).symm.trans hq
        refine lv_aload_n hx hb d_M_station_30 rfl (lv_at hl 0 rfl) ?_
        refine va_get (D := (dC, dI)) (ci := 2) (v := .int (zi (N 7 0))) (C := R_M) (T := T_M) (N := 17) hx hb hw i_M hown hK hP 0 rfl rfl 0 (by decide) (hw _ m_226) (fun _ h9 => h9) rfl d_M_station_31 ?_
        refine lv_istore (lv' := [(4, .int (zi (N 7 0))), (0, .ref (ad 0)), (1, .int (zi a)), (2, .int (zi b)), (3, .int (zi d))]) hx hb d_M_station_34 hl (by decide) rfl (fun ls hl => ?_)
        refine lv_aload_n hx hb d_M_station_36 rfl (lv_at hl 1 rfl) ?_
        refine va_get (D := (dC, dI)) (ci := 2) (v := .ref (ad 1)) (C := R_M) (T := T_M) (N := 17) hx hb hw i_M hown hK hP 0 rfl rfl 1 (by decide) (hw _ m_227) (fun _ h9 => h9) rfl d_M_station_37 ?_
        refine lv_iload hx hb d_M_station_40 (lv_at hl 0 rfl) ?_
        refine lv_iload_n hx hb d_M_station_42 rfl (lv_at hl 2 rfl) ?_
        refine zr_iast hx hb hK hP (hD _ _ _ _ _) hS 1 0 (cA := cI) (n := 60) (g := N 0) rfl rfl (i := N 7 0) (v := a) (by omega) (by omega) (by decide) d_M_station_43 (fun H locs hP _ hS => ?_)
        replace hP : va_P (dC, dI) classes (wM ad cI (zs N 0 (zu (N 0) (N 7 0) a)) k0 k1 k2 k3) H := hP
        refine lv_aload_n hx hb d_M_station_44 rfl (lv_at hl 1 rfl) ?_
        refine va_get (D := (dC, dI)) (ci := 2) (v := .ref (ad 2)) (C := R_M) (T := T_M) (N := 17) hx hb hw i_M hown hK hP 0 rfl rfl 2 (by decide) (hw _ m_228) (fun _ h9 => h9) rfl d_M_station_45 ?_
        refine lv_iload hx hb d_M_station_48 (lv_at hl 0 rfl) ?_
        refine lv_iload_n hx hb d_M_station_50 rfl (lv_at hl 3 rfl) ?_
        refine zr_iast hx hb hK hP (hD _ _ _ _ _) hS 2 0 (cA := cI) (n := 60) (g := N 1) rfl rfl (i := N 7 0) (v := b) (by omega) (by omega) (by decide) d_M_station_51 (fun H locs hP _ hS => ?_)
        replace hP : va_P (dC, dI) classes (wM ad cI (zs (zs N 0 (zu (N 0) (N 7 0) a)) 1 (zu (N 1) (N 7 0) b)) k0 k1 k2 k3) H := hP
        refine lv_aload_n hx hb d_M_station_52 rfl (lv_at hl 1 rfl) ?_
        refine va_get (D := (dC, dI)) (ci := 2) (v := .ref (ad 3)) (C := R_M) (T := T_M) (N := 17) hx hb hw i_M hown hK hP 0 rfl rfl 3 (by decide) (hw _ m_229) (fun _ h9 => h9) rfl d_M_station_53 ?_
        refine lv_iload hx hb d_M_station_56 (lv_at hl 0 rfl) ?_
        refine lv_iload_n hx hb d_M_station_58 rfl (lv_at hl 4 rfl) ?_
        refine zr_iast hx hb hK hP (hD _ _ _ _ _) hS 3 0 (cA := cI) (n := 60) (g := N 2) rfl rfl (i := N 7 0) (v := d) (by omega) (by omega) (by decide) d_M_station_59 (fun H locs hP _ hS => ?_)
        replace hP : va_P (dC, dI) classes (wM ad cI (zs (zs (zs N 0 (zu (N 0) (N 7 0) a)) 1 (zu (N 1) (N 7 0) b)) 2 (zu (N 2) (N 7 0) d)) k0 k1 k2 k3) H := hP
        refine lv_aload_n hx hb d_M_station_60 rfl (lv_at hl 1 rfl) ?_
        refine va_get (D := (dC, dI)) (ci := 2) (v := .ref (ad 5)) (C := R_M) (T := T_M) (N := 17) hx hb hw i_M hown hK hP 0 rfl rfl 5 (by decide) (hw _ m_231) (fun _ h9 => h9) rfl d_M_station_61 ?_
        refine lv_iload hx hb d_M_station_64 (lv_at hl 0 rfl) ?_
        refine lv_bipush (v := zi 50) hx hb d_M_station_66 (by decide) ?_
        refine zr_iast hx hb hK hP (hD _ _ _ _ _) hS 5 0 (cA := cI) (n := 60) (g := N 4) rfl rfl (i := N 7 0) (v := 50) (by omega) (by omega) (by decide) d_M_station_68 (fun H locs hP _ hS => ?_)
        replace hP : va_P (dC, dI) classes (wM ad cI (zs (zs (zs (zs N 0 (zu (N 0) (N 7 0) a)) 1 (zu (N 1) (N 7 0) b)) 2 (zu (N 2) (N 7 0) d)) 4 (zu (N 4) (N 7 0) 50)) k0 k1 k2 k3) H := hP
        refine lv_aload_n hx hb d_M_station_69 rfl (lv_at hl 1 rfl) ?_
        refine va_get (D := (dC, dI)) (ci := 2) (v := .ref (ad 6)) (C := R_M) (T := T_M) (N := 17) hx hb hw i_M hown hK hP 0 rfl rfl 6 (by decide) (hw _ m_232) (fun _ h9 => h9) rfl d_M_station_70 ?_
        refine lv_iconst (v := zi 2) hx hb d_M_station_73 rfl ?_
        refine lv_iload hx hb d_M_station_74 (lv_at hl 0 rfl) ?_
        have b_10 : zB 0 120 (2 * (N 7 0)) := zB.w (zb_mulq (zb_c 2) (jN_s0 hI) (by decide) (by decide)) (by decide) (by decide)
        refine zr_imul hx hb d_M_station_76 ?_
        refine lv_iconst (v := zi (-1)) hx hb d_M_station_77 rfl ?_
        refine zr_iast hx hb hK hP (hD _ _ _ _ _) hS 6 0 (cA := cI) (n := 120) (g := N 5) rfl rfl (i := 2 * (N 7 0)) (v := -1) (by omega) (by omega) (by decide) d_M_station_78 (fun H locs hP _ hS => ?_)
        replace hP : va_P (dC, dI) classes (wM ad cI (zs (zs (zs (zs (zs N 0 (zu (N 0) (N 7 0) a)) 1 (zu (N 1) (N 7 0) b)) 2 (zu (N 2) (N 7 0) d)) 4 (zu (N 4) (N 7 0) 50)) 5 (zu (N 5) (2 * (N 7 0)) (-1))) k0 k1 k2 k3) H := hP
        refine lv_aload_n hx hb d_M_station_79 rfl (lv_at hl 1 rfl) ?_
        refine va_get (D := (dC, dI)) (ci := 2) (v := .ref (ad 6)) (C := R_M) (T := T_M) (N := 17) hx hb hw i_M hown hK hP 0 rfl rfl 6 (by decide) (hw _ m_232) (fun _ h9 => h9) rfl d_M_station_80 ?_
        refine lv_iconst (v := zi 2) hx hb d_M_station_83 rfl ?_
        refine lv_iload hx hb d_M_station_84 (lv_at hl 0 rfl) ?_
        refine zr_imul hx hb d_M_station_86 ?_
        refine lv_iconst (v := zi 1) hx hb d_M_station_87 rfl ?_
        have b_11 : zB 1 121 ((2 * (N 7 0)) + 1) := zB.w (zb_add b_10 (zb_c 1)) (by decide) (by decide)
        refine zr_iadd hx hb d_M_station_88 ?_
        refine lv_iconst (v := zi (-1)) hx hb d_M_station_89 rfl ?_
        refine zr_iast hx hb hK hP (hD _ _ _ _ _) hS 6 0 (cA := cI) (n := 120) (g := zu (N 5) (2 * (N 7 0)) (-1)) rfl rfl (i := (2 * (N 7 0)) + 1) (v := -1) (by omega) (by omega) (by decide) d_M_station_90 (fun H locs hP _ hS => ?_)
        replace hP : va_P (dC, dI) classes (wM ad cI (zs (zs (zs (zs (zs (zs N 0 (zu (N 0) (N 7 0) a)) 1 (zu (N 1) (N 7 0) b)) 2 (zu (N 2) (N 7 0) d)) 4 (zu (N 4) (N 7 0) 50)) 5 (zu (N 5) (2 * (N 7 0)) (-1))) 5 (zu (zu (N 5) (2 * (N 7 0)) (-1)) ((2 * (N 7 0)) + 1) (-1))) k0 k1 k2 k3) H := hP
        refine lv_iload hx hb d_M_station_91 (lv_at hl 0 rfl) ?_
        refine zr_if_le (tgt := 161) hx hb (zB.I (jN_s0 hI) (by decide) (by decide)) d_M_station_93 (by decide) (fun c_12 => ?_) (fun c_12 => ?_)
        · replace hq := (if_neg c_12).symm.trans hq
          have r_13 : zB 0 0 (N 7 0) := ⟨(jN_s0 hI).1, (Int.not_lt.mp c_12)⟩
          refine lv_aload_n hx hb d_M_station_161 rfl (lv_at hl 1 rfl) ?_
          refine lv_dup hx hb d_M_station_162 rfl ?_
          refine va_get (D := (dC, dI)) (ci := 2) (v := .int (zi (N 7 0))) (C := R_M) (T := T_M) (N := 17) hx hb hw i_M hown hK hP 0 rfl rfl 0 (by decide) (hw _ m_226) (fun _ h9 => h9) rfl d_M_station_163 ?_
          refine lv_iconst (v := zi 1) hx hb d_M_station_166 rfl ?_
          have b_14 : zB 1 61 ((N 7 0) + 1) := zB.w (zb_add (jN_s0 hI) (zb_c 1)) (by decide) (by decide)
          refine zr_iadd hx hb d_M_station_167 ?_
          refine va_put (D := (dC, dI)) (ci := 2) (v := .int (zi ((N 7 0) + 1))) (ty := .int) (C := R_M) (T := T_M) (N := 17) hx hb hw i_M t_M ty_M nm_M hown hK hP (hD _ _ _ _ _) hS 0 rfl rfl 0 (by decide) (hw _ m_226) (fun _ h9 => h9) rfl (by decide +kernel) rfl rfl (Nat.le_of_ble_eq_true rfl) d_M_station_168 (fun H locs hP _ hS => ?_)
          replace hP : va_P (dC, dI) classes (wM ad cI (zs (zs (zs (zs (zs (zs (zs N 0 (zu (N 0) (N 7 0) a)) 1 (zu (N 1) (N 7 0) b)) 2 (zu (N 2) (N 7 0) d)) 4 (zu (N 4) (N 7 0) 50)) 5 (zu (N 5) (2 * (N 7 0)) (-1))) 5 (zu (zu (N 5) (2 * (N 7 0)) (-1)) ((2 * (N 7 0)) + 1) (-1))) 7 (zu ((zs (zs (zs (zs (zs (zs N 0 (zu (N 0) (N 7 0) a)) 1 (zu (N 1) (N 7 0) b)) 2 (zu (N 2) (N 7 0) d)) 4 (zu (N 4) (N 7 0) 50)) 5 (zu (N 5) (2 * (N 7 0)) (-1))) 5 (zu (zu (N 5) (2 * (N 7 0)) (-1)) ((2 * (N 7 0)) + 1) (-1))) 7) 0 ((N 7 0) + 1))) k0 k1 k2 k3) H := hP
          refine lv_iload hx hb d_M_station_171 (lv_at hl 0 rfl) ?_
          subst hq
          exact zw_i hx hb hr hlocks rfl hP hS d_M_station_173
        · replace hq := (if_pos c_12).symm.trans hq
          have r_15 : zB 1 60 (N 7 0) := ⟨(Int.add_one_le_of_lt c_12), (jN_s0 hI).2⟩
          refine lv_iload_n hx hb d_M_station_96 rfl (lv_at hl 2 rfl) ?_
          refine lv_aload_n hx hb d_M_station_97 rfl (lv_at hl 1 rfl) ?_
          refine va_get (D := (dC, dI)) (ci := 2) (v := .ref (ad 1)) (C := R_M) (T := T_M) (N := 17) hx hb hw i_M hown hK hP 0 rfl rfl 1 (by decide) (hw _ m_227) (fun _ h9 => h9) rfl d_M_station_98 ?_
          refine lv_iload hx hb d_M_station_101 (lv_at hl 0 rfl) ?_
          refine lv_iconst (v := zi 1) hx hb d_M_station_103 rfl ?_
          have b_16 : zB 0 59 ((N 7 0) - 1) := zB.w (zb_sub r_15 (zb_c 1)) (by decide) (by decide)
          refine zr_isub hx hb d_M_station_104 ?_
          refine zr_iald hx hb hK hP 1 0 (cA := cI) (n := 60) (g := zu (N 0) (N 7 0) a) rfl rfl (i := (N 7 0) - 1) (by omega) (by omega) (by decide) d_M_station_105 ?_
          have b_17 : zB (-30000) 30000 (a - ((zu (N 0) (N 7 0) a) ((N 7 0) - 1))) := zB.w (zb_sub g_4.1 ((zu_b (jN_a0 hI) (zB.w g_4.1 (by decide) (by decide))) ((N 7 0) - 1))) (by decide) (by decide)
          refine zr_isub hx hb d_M_station_106 ?_
          refine zr_i2l hx hb (zB.I b_17 (by decide) (by decide)) d_M_station_107 ?_
          refine zc_n (va_runS (As := [.long (zl (a - ((zu (N 0) (N 7 0) a) ((N 7 0) - 1))))]) (rest := []) ⟨hx, hb, hml, hown, hts⟩ (k_M_square l (a - ((zu (N 0) (N 7 0) a) ((N 7 0) - 1))) (zB.w b_17 (by decide) (by decide)) ) (zcS 1 hts m_257 m_3 m_255 m_256 rfl rfl q_M_square ⟨Nat.le_of_ble_eq_true rfl, Nat.le_of_ble_eq_true rfl⟩) (zp0 [.long (zl (a - ((zu (N 0) (N 7 0) a) ((N 7 0) - 1))))]) rfl rfl hl.1 rfl (lv_room (Nat.le_of_ble_eq_true rfl)) d_M_station_108 ⟨Nat.zero_le _, Nat.zero_le _⟩) ?_
          have b_18 : zB 0 900000000 (f_M_square (a - ((zu (N 0) (N 7 0) a) ((N 7 0) - 1)))) := zB.w (zb_sq (A := 30000) (zB.w b_17 (by decide) (by decide))) (by decide) (by decide)
          refine lv_iload_n hx hb d_M_station_111 rfl (lv_at hl 3 rfl) ?_
          refine lv_aload_n hx hb d_M_station_112 rfl (lv_at hl 1 rfl) ?_
          refine va_get (D := (dC, dI)) (ci := 2) (v := .ref (ad 2)) (C := R_M) (T := T_M) (N := 17) hx hb hw i_M hown hK hP 0 rfl rfl 2 (by decide) (hw _ m_228) (fun _ h9 => h9) rfl d_M_station_113 ?_
          refine lv_iload hx hb d_M_station_116 (lv_at hl 0 rfl) ?_
          refine lv_iconst (v := zi 1) hx hb d_M_station_118 rfl ?_
          refine zr_isub hx hb d_M_station_119 ?_
          refine zr_iald hx hb hK hP 2 0 (cA := cI) (n := 60) (g := zu (N 1) (N 7 0) b) rfl rfl (i := (N 7 0) - 1) (by omega) (by omega) (by decide) d_M_station_120 ?_
          have b_19 : zB (-30000) 30000 (b - ((zu (N 1) (N 7 0) b) ((N 7 0) - 1))) := zB.w (zb_sub g_4.2 ((zu_b (jN_a1 hI) (zB.w g_4.2 (by decide) (by decide))) ((N 7 0) - 1))) (by decide) (by decide)
          refine zr_isub hx hb d_M_station_121 ?_
          refine zr_i2l hx hb (zB.I b_19 (by decide) (by decide)) d_M_station_122 ?_
          refine zc_n (va_runS (As := [.long (zl (b - ((zu (N 1) (N 7 0) b) ((N 7 0) - 1))))]) (rest := [.long (zl (f_M_square (a - ((zu (N 0) (N 7 0) a) ((N 7 0) - 1)))))]) ⟨hx, hb, hml, hown, hts⟩ (k_M_square l (b - ((zu (N 1) (N 7 0) b) ((N 7 0) - 1))) (zB.w b_19 (by decide) (by decide)) ) (zcS 1 hts m_257 m_3 m_255 m_256 rfl rfl q_M_square ⟨Nat.le_of_ble_eq_true rfl, Nat.le_of_ble_eq_true rfl⟩) (zp0 [.long (zl (b - ((zu (N 1) (N 7 0) b) ((N 7 0) - 1))))]) rfl rfl hl.1 rfl (lv_room (Nat.le_of_ble_eq_true rfl)) d_M_station_123 ⟨Nat.zero_le _, Nat.zero_le _⟩) ?_
          have b_20 : zB 0 900000000 (f_M_square (b - ((zu (N 1) (N 7 0) b) ((N 7 0) - 1)))) := zB.w (zb_sq (A := 30000) (zB.w b_19 (by decide) (by decide))) (by decide) (by decide)
          have b_21 : zB 0 1800000000 ((f_M_square (a - ((zu (N 0) (N 7 0) a) ((N 7 0) - 1)))) + (f_M_square (b - ((zu (N 1) (N 7 0) b) ((N 7 0) - 1))))) := zB.w (zb_add b_18 b_20) (by decide) (by decide)
          refine zr_ladd hx hb d_M_station_126 ?_
          refine zc_n (va_runS (As := [.long (zl ((f_M_square (a - ((zu (N 0) (N 7 0) a) ((N 7 0) - 1)))) + (f_M_square (b - ((zu (N 1) (N 7 0) b) ((N 7 0) - 1))))))]) (rest := []) ⟨hx, hb, hml, hown, hts⟩ (k_M_root l ((f_M_square (a - ((zu (N 0) (N 7 0) a) ((N 7 0) - 1)))) + (f_M_square (b - ((zu (N 1) (N 7 0) b) ((N 7 0) - 1))))) (zB.w b_21 (by decide) (by decide)) ) (zcS 1 hts m_260 m_3 m_258 m_259 rfl rfl q_M_root ⟨Nat.le_of_ble_eq_true rfl, Nat.le_of_ble_eq_true rfl⟩) (zp0 [.long (zl ((f_M_square (a - ((zu (N 0) (N 7 0) a) ((N 7 0) - 1)))) + (f_M_square (b - ((zu (N 1) (N 7 0) b) ((N 7 0) - 1))))))]) rfl rfl hl.1 rfl (lv_room (Nat.le_of_ble_eq_true rfl)) d_M_station_127 ⟨Nat.zero_le _, Nat.zero_le _⟩) ?_
          have b_22 : zB 0 100000 (f_M_root ((f_M_square (a - ((zu (N 0) (N 7 0) a) ((N 7 0) - 1)))) + (f_M_square (b - ((zu (N 1) (N 7 0) b) ((N 7 0) - 1)))))) := br_M_root ((f_M_square (a - ((zu (N 0) (N 7 0) a) ((N 7 0) - 1)))) + (f_M_square (b - ((zu (N 1) (N 7 0) b) ((N 7 0) - 1))))) (zB.w b_21 (by decide) (by decide)) 
          refine lv_istore (lv' := [(5, .int (zi (f_M_root ((f_M_square (a - ((zu (N 0) (N 7 0) a) ((N 7 0) - 1)))) + (f_M_square (b - ((zu (N 1) (N 7 0) b) ((N 7 0) - 1)))))))), (4, .int (zi (N 7 0))), (0, .ref (ad 0)), (1, .int (zi a)), (2, .int (zi b)), (3, .int (zi d))]) hx hb d_M_station_130 hl (by decide) rfl (fun ls hl => ?_)
          refine lv_aload_n hx hb d_M_station_132 rfl (lv_at hl 2 rfl) ?_
          refine va_get (D := (dC, dI)) (ci := 2) (v := .ref (ad 4)) (C := R_M) (T := T_M) (N := 17) hx hb hw i_M hown hK hP 0 rfl rfl 4 (by decide) (hw _ m_230) (fun _ h9 => h9) rfl d_M_station_133 ?_
          refine lv_iload hx hb d_M_station_136 (lv_at hl 1 rfl) ?_
          refine lv_aload_n hx hb d_M_station_138 rfl (lv_at hl 2 rfl) ?_
          refine va_get (D := (dC, dI)) (ci := 2) (v := .ref (ad 4)) (C := R_M) (T := T_M) (N := 17) hx hb hw i_M hown hK hP 0 rfl rfl 4 (by decide) (hw _ m_230) (fun _ h9 => h9) rfl d_M_station_139 ?_
          refine lv_iload hx hb d_M_station_142 (lv_at hl 1 rfl) ?_
          refine lv_iconst (v := zi 1) hx hb d_M_station_144 rfl ?_
          refine zr_isub hx hb d_M_station_145 ?_
          refine zr_iald hx hb hK hP 4 0 (cA := cI) (n := 60) (g := N 3) rfl rfl (i := (N 7 0) - 1) (by omega) (by omega) (by decide) d_M_station_146 ?_
          refine lv_iload hx hb d_M_station_147 (lv_at hl 0 rfl) ?_
          refine lv_iconst (v := zi 1) hx hb d_M_station_149 rfl ?_
          refine zr_icmp_ge (tgt := 157) hx hb (zB.I b_22 (by decide) (by decide)) (zB.I (zb_c 1) (by decide) (by decide)) d_M_station_150 (by decide) (fun c_23 => ?_) (fun c_23 => ?_)
          · replace hq := (if_neg c_23).symm.trans hq
            have r_24 : zB 1 100000 (f_M_root ((f_M_square (a - ((zu (N 0) (N 7 0) a) ((N 7 0) - 1)))) + (f_M_square (b - ((zu (N 1) (N 7 0) b) ((N 7 0) - 1)))))) := ⟨(Int.not_lt.mp c_23), b_22.2⟩
            refine lv_iload hx hb d_M_station_157 (lv_at hl 0 rfl) ?_
            have b_25 : zB 1 2645620 ((N 3 ((N 7 0) - 1)) + (f_M_root ((f_M_square (a - ((zu (N 0) (N 7 0) a) ((N 7 0) - 1)))) + (f_M_square (b - ((zu (N 1) (N 7 0) b) ((N 7 0) - 1))))))) := zB.w (zb_add (jN_a3 hI ((N 7 0) - 1)) r_24) (by decide) (by decide)
            refine zr_iadd hx hb d_M_station_159 ?_
            refine zr_iast hx hb hK hP (hD _ _ _ _ _) hS 4 0 (cA := cI) (n := 60) (g := N 3) rfl rfl (i := N 7 0) (v := (N 3 ((N 7 0) - 1)) + (f_M_root ((f_M_square (a - ((zu (N 0) (N 7 0) a) ((N 7 0) - 1)))) + (f_M_square (b - ((zu (N 1) (N 7 0) b) ((N 7 0) - 1))))))) (by omega) (by omega) (by decide) d_M_station_160 (fun H locs hP _ hS => ?_)
            replace hP : va_P (dC, dI) classes (wM ad cI (zs (zs (zs (zs (zs (zs (zs N 0 (zu (N 0) (N 7 0) a)) 1 (zu (N 1) (N 7 0) b)) 2 (zu (N 2) (N 7 0) d)) 4 (zu (N 4) (N 7 0) 50)) 5 (zu (N 5) (2 * (N 7 0)) (-1))) 5 (zu (zu (N 5) (2 * (N 7 0)) (-1)) ((2 * (N 7 0)) + 1) (-1))) 3 (zu (N 3) (N 7 0) ((N 3 ((N 7 0) - 1)) + (f_M_root ((f_M_square (a - ((zu (N 0) (N 7 0) a) ((N 7 0) - 1)))) + (f_M_square (b - ((zu (N 1) (N 7 0) b) ((N 7 0) - 1))))))))) k0 k1 k2 k3) H := hP
            refine lv_aload_n hx hb d_M_station_161 rfl (lv_at hl 2 rfl) ?_
            refine lv_dup hx hb d_M_station_162 rfl ?_
            refine va_get (D := (dC, dI)) (ci := 2) (v := .int (zi (N 7 0))) (C := R_M) (T := T_M) (N := 17) hx hb hw i_M hown hK hP 0 rfl rfl 0 (by decide) (hw _ m_226) (fun _ h9 => h9) rfl d_M_station_163 ?_
            refine lv_iconst (v := zi 1) hx hb d_M_station_166 rfl ?_
            have b_26 : zB 1 61 ((N 7 0) + 1) := zB.w (zb_add (jN_s0 hI) (zb_c 1)) (by decide) (by decide)
            refine zr_iadd hx hb d_M_station_167 ?_
            refine va_put (D := (dC, dI)) (ci := 2) (v := .int (zi ((N 7 0) + 1))) (ty := .int) (C := R_M) (T := T_M) (N := 17) hx hb hw i_M t_M ty_M nm_M hown hK hP (hD _ _ _ _ _) hS 0 rfl rfl 0 (by decide) (hw _ m_226) (fun _ h9 => h9) rfl (by decide +kernel) rfl rfl (Nat.le_of_ble_eq_true rfl) d_M_station_168 (fun H locs hP _ hS => ?_)
            replace hP : va_P (dC, dI) classes (wM ad cI (zs (zs (zs (zs (zs (zs (zs (zs N 0 (zu (N 0) (N 7 0) a)) 1 (zu (N 1) (N 7 0) b)) 2 (zu (N 2) (N 7 0) d)) 4 (zu (N 4) (N 7 0) 50)) 5 (zu (N 5) (2 * (N 7 0)) (-1))) 5 (zu (zu (N 5) (2 * (N 7 0)) (-1)) ((2 * (N 7 0)) + 1) (-1))) 3 (zu (N 3) (N 7 0) ((N 3 ((N 7 0) - 1)) + (f_M_root ((f_M_square (a - ((zu (N 0) (N 7 0) a) ((N 7 0) - 1)))) + (f_M_square (b - ((zu (N 1) (N 7 0) b) ((N 7 0) - 1))))))))) 7 (zu ((zs (zs (zs (zs (zs (zs (zs N 0 (zu (N 0) (N 7 0) a)) 1 (zu (N 1) (N 7 0) b)) 2 (zu (N 2) (N 7 0) d)) 4 (zu (N 4) (N 7 0) 50)) 5 (zu (N 5) (2 * (N 7 0)) (-1))) 5 (zu (zu (N 5) (2 * (N 7 0)) (-1)) ((2 * (N 7 0)) + 1) (-1))) 3 (zu (N 3) (N 7 0) ((N 3 ((N 7 0) - 1)) + (f_M_root ((f_M_square (a - ((zu (N 0) (N 7 0) a) ((N 7 0) - 1)))) + (f_M_square (b - ((zu (N 1) (N 7 0) b) ((N 7 0) - 1))))))))) 7) 0 ((N 7 0) + 1))) k0 k1 k2 k3) H := hP
            refine lv_iload hx hb d_M_station_171 (lv_at hl 1 rfl) ?_
            subst hq
            exact zw_i hx hb hr hlocks rfl hP hS d_M_station_173
          · replace hq := (if_pos c_23).symm.trans hq
            have r_27 : zB 0 0 (f_M_root ((f_M_square (a - ((zu (N 0) (N 7 0) a) ((N 7 0) - 1)))) + (f_M_square (b - ((zu (N 1) (N 7 0) b) ((N 7 0) - 1)))))) := ⟨b_22.1, (Int.le_sub_one_of_lt c_23)⟩
            refine lv_iconst (v := zi 1) hx hb d_M_station_153 rfl ?_
            refine lv_goto (tgt := 159) hx hb d_M_station_154 (by decide) ?_
            have b_28 : zB 1 2545621 ((N 3 ((N 7 0) - 1)) + 1) := zB.w (zb_add (jN_a3 hI ((N 7 0) - 1)) (zb_c 1)) (by decide) (by decide)
            refine zr_iadd hx hb d_M_station_159 ?_
            refine zr_iast hx hb hK hP (hD _ _ _ _ _) hS 4 0 (cA := cI) (n := 60) (g := N 3) rfl rfl (i := N 7 0) (v := (N 3 ((N 7 0) - 1)) + 1) (by omega) (by omega) (by decide) d_M_station_160 (fun H locs hP _ hS => ?_)
            replace hP : va_P (dC, dI) classes (wM ad cI (zs (zs (zs (zs (zs (zs (zs N 0 (zu (N 0) (N 7 0) a)) 1 (zu (N 1) (N 7 0) b)) 2 (zu (N 2) (N 7 0) d)) 4 (zu (N 4) (N 7 0) 50)) 5 (zu (N 5) (2 * (N 7 0)) (-1))) 5 (zu (zu (N 5) (2 * (N 7 0)) (-1)) ((2 * (N 7 0)) + 1) (-1))) 3 (zu (N 3) (N 7 0) ((N 3 ((N 7 0) - 1)) + 1))) k0 k1 k2 k3) H := hP
            refine lv_aload_n hx hb d_M_station_161 rfl (lv_at hl 2 rfl) ?_
            refine lv_dup hx hb d_M_station_162 rfl ?_
            refine va_get (D := (dC, dI)) (ci := 2) (v := .int (zi (N 7 0))) (C := R_M) (T := T_M) (N := 17) hx hb hw i_M hown hK hP 0 rfl rfl 0 (by decide) (hw _ m_226) (fun _ h9 => h9) rfl d_M_station_163 ?_
            refine lv_iconst (v := zi 1) hx hb d_M_station_166 rfl ?_
            have b_29 : zB 1 61 ((N 7 0) + 1) := zB.w (zb_add (jN_s0 hI) (zb_c 1)) (by decide) (by decide)
            refine zr_iadd hx hb d_M_station_167 ?_
            refine va_put (D := (dC, dI)) (ci := 2) (v := .int (zi ((N 7 0) + 1))) (ty := .int) (C := R_M) (T := T_M) (N := 17) hx hb hw i_M t_M ty_M nm_M hown hK hP (hD _ _ _ _ _) hS 0 rfl rfl 0 (by decide) (hw _ m_226) (fun _ h9 => h9) rfl (by decide +kernel) rfl rfl (Nat.le_of_ble_eq_true rfl) d_M_station_168 (fun H locs hP _ hS => ?_)
            replace hP : va_P (dC, dI) classes (wM ad cI (zs (zs (zs (zs (zs (zs (zs (zs N 0 (zu (N 0) (N 7 0) a)) 1 (zu (N 1) (N 7 0) b)) 2 (zu (N 2) (N 7 0) d)) 4 (zu (N 4) (N 7 0) 50)) 5 (zu (N 5) (2 * (N 7 0)) (-1))) 5 (zu (zu (N 5) (2 * (N 7 0)) (-1)) ((2 * (N 7 0)) + 1) (-1))) 3 (zu (N 3) (N 7 0) ((N 3 ((N 7 0) - 1)) + 1))) 7 (zu ((zs (zs (zs (zs (zs (zs (zs N 0 (zu (N 0) (N 7 0) a)) 1 (zu (N 1) (N 7 0) b)) 2 (zu (N 2) (N 7 0) d)) 4 (zu (N 4) (N 7 0) 50)) 5 (zu (N 5) (2 * (N 7 0)) (-1))) 5 (zu (zu (N 5) (2 * (N 7 0)) (-1)) ((2 * (N 7 0)) + 1) (-1))) 3 (zu (N 3) (N 7 0) ((N 3 ((N 7 0) - 1)) + 1))) 7) 0 ((N 7 0) + 1))) k0 k1 k2 k3) H := hP
            refine lv_iload hx hb d_M_station_171 (lv_at hl 1 rfl) ?_
            subst hq
            exact zw_i hx hb hr hlocks rfl hP hS d_M_station_173
      · replace hq := (if_pos c_9).symm.trans hq
        have r_30 : zB 60 60 (N 7 0) := ⟨(Int.le_of_eq c_9.symm), (Int.le_of_eq c_9)⟩
        refine lv_iconst (v := zi (-1)) hx hb d_M_station_28 rfl ?_
        subst hq
        exact zw_i hx hb hr hlocks rfl hP hS d_M_station_29
def f_M_heights (N : Nat → Int → Int) (a b : Int) : Int × (Nat → Int → Int) := if (f_M_within a 0 1000) = 0 then ((0, N)) else (if (f_M_within b 0 1000) = 0 then ((0, N)) else ((1, zs (zs N 7 (zu (N 7) 2 a)) 7 (zu ((zs N 7 (zu (N 7) 2 a)) 7) 3 b))))
set_option maxHeartbeats 4000000 in
set_option maxRecDepth 100000 in
theorem k_M_heights (l : Launch) (dC : Nat → ClassId) (dI : Nat → Nat → Nat) (ad : Nat → Nat) (cI : ClassId) (N : Nat → Int → Int) (k0 k1 k2 k3 : Int) (hI : jN N) (hj : zJ 8 ad) (a b : Int) (hb_a : zB (-2147483648) 2147483647 a) (hb_b : zB (-2147483648) 2147483647 b) : Met l y_M_heights (Cond.code y_M_heights c_M_heights 3 (some .boolean) :: zT) { frames := 1, cells := 0, slots := 0, locals := 22 } (va_Pc ([.ref (ad 0), .int (zi a), .int (zi b)] : List Value) (zWM dC dI ad cI N k0 k1 k2 k3)) (zQ (some (.int (zi (f_M_heights N a b).1))) (fun H => va_P (dC, dI) classes (wM ad cI (f_M_heights N a b).2 k0 k1 k2 k3) H) (zAM ad)) 0 0 (zAM ad) := by
  refine zh (cc := c_M_heights) (C := R_M) (by decide) rfl rfl (Nat.le_of_ble_eq_true rfl) ?_
  intro p e s m below meth c ls hx hb hr hlocks hml hown hname hts hl hB
  have hw : ∀ w9 ∈ zT, w9.before ([.ref (ad 0), .int (zi a), .int (zi b)] : List Value).toArray s = true := fun w9 h => hts w9 (List.mem_cons_of_mem _ h)
  obtain ⟨hP, hK⟩ := hB
  obtain ⟨hn0, hn1⟩ := id (jN_s0 hI)
  have hD := zDM hj cI
  have hS : va_S (zAM ad) s.heap s.heap [] := va_S.rf
  obtain ⟨hz0, hz1⟩ := id (jN_s1 hI)
  obtain ⟨hl_a, hh_a⟩ := id hb_a
  obtain ⟨hl_b, hh_b⟩ := id hb_b
  generalize hq : f_M_heights N a b = r
  unfold f_M_heights at hq
  replace hl : lv_has ls 3 [(0, .ref (ad 0)), (1, .int (zi a)), (2, .int (zi b))] := hl
  refine lv_iload_n hx hb d_M_heights_0 rfl (lv_at hl 1 rfl) ?_
  refine lv_iconst (v := zi 0) hx hb d_M_heights_1 rfl ?_
  refine lv_sipush (v := zi 1000) hx hb d_M_heights_2 (by decide) ?_
  refine zc_n (va_runS (As := [.int (zi a), .int (zi 0), .int (zi 1000)]) (rest := []) ⟨hx, hb, hml, hown, hts⟩ (k_M_within l a 0 1000 (zB.w hb_a (by decide) (by decide)) (zB.w (zb_c 0) (by decide) (by decide)) (zB.w (zb_c 1000) (by decide) (by decide)) ) (zcS 3 hts m_252 m_3 m_250 m_251 rfl rfl q_M_within ⟨Nat.le_of_ble_eq_true rfl, Nat.le_of_ble_eq_true rfl⟩) (zp0 [.int (zi a), .int (zi 0), .int (zi 1000)]) rfl rfl hl.1 rfl (lv_room (Nat.le_of_ble_eq_true rfl)) d_M_heights_5 ⟨Nat.zero_le _, Nat.zero_le _⟩) ?_
  refine zr_if_eq (tgt := 22) hx hb (zB.I (bb_M_within a 0 1000) (by decide) (by decide)) d_M_heights_8 (by decide) (fun c_1 => ?_) (fun c_1 => ?_)
  · replace hq := (if_pos c_1).symm.trans hq
    have r_2 : zB 0 0 (f_M_within a 0 1000) := ⟨(Int.le_of_eq c_1.symm), (Int.le_of_eq c_1)⟩
    refine lv_iconst (v := zi 0) hx hb d_M_heights_22 rfl ?_
    subst hq
    exact zw_z hx hb hr hlocks (zB.w (zb_c 0) (by decide) (by decide)) rfl hP hS d_M_heights_23
  · replace hq := (if_neg c_1).symm.trans hq
    have r_3 : zB 1 1 (f_M_within a 0 1000) := ⟨(by have := (bb_M_within a 0 1000).1; omega), (bb_M_within a 0 1000).2⟩
    have g_4 := gf_M_within c_1
    obtain ⟨g_4l, g_4h⟩ := id g_4
    refine lv_iload_n hx hb d_M_heights_11 rfl (lv_at hl 2 rfl) ?_
    refine lv_iconst (v := zi 0) hx hb d_M_heights_12 rfl ?_
    refine lv_sipush (v := zi 1000) hx hb d_M_heights_13 (by decide) ?_
    refine zc_n (va_runS (As := [.int (zi b), .int (zi 0), .int (zi 1000)]) (rest := []) ⟨hx, hb, hml, hown, hts⟩ (k_M_within l b 0 1000 (zB.w hb_b (by decide) (by decide)) (zB.w (zb_c 0) (by decide) (by decide)) (zB.w (zb_c 1000) (by decide) (by decide)) ) (zcS 3 hts m_252 m_3 m_250 m_251 rfl rfl q_M_within ⟨Nat.le_of_ble_eq_true rfl, Nat.le_of_ble_eq_true rfl⟩) (zp0 [.int (zi b), .int (zi 0), .int (zi 1000)]) rfl rfl hl.1 rfl (lv_room (Nat.le_of_ble_eq_true rfl)) d_M_heights_16 ⟨Nat.zero_le _, Nat.zero_le _⟩) ?_
    refine zr_if_ne (tgt := 24) hx hb (zB.I (bb_M_within b 0 1000) (by decide) (by decide)) d_M_heights_19 (by decide) (fun c_5 => ?_) (fun c_5 => ?_)
    · replace hq := (if_neg c_5).symm.trans hq
      have r_6 : zB 1 1 (f_M_within b 0 1000) := ⟨(by have := (bb_M_within b 0 1000).1; omega), (bb_M_within b 0 1000).2⟩
      have g_7 := gf_M_within c_5
      obtain ⟨g_7l, g_7h⟩ := id g_7
      refine lv_aload_n hx hb d_M_heights_24 rfl (lv_at hl 0 rfl) ?_
      refine lv_iload_n hx hb d_M_heights_25 rfl (lv_at hl 1 rfl) ?_
      refine va_put (D := (dC, dI)) (ci := 2) (v := .int (zi a)) (ty := .int) (C := R_M) (T := T_M) (N := 17) hx hb hw i_M t_M ty_M nm_M hown hK hP (hD _ _ _ _ _) hS 0 rfl rfl 9 (by decide) (hw _ m_235) (fun _ h9 => h9) rfl (by decide +kernel) rfl rfl (Nat.le_of_ble_eq_true rfl) d_M_heights_26 (fun H locs hP _ hS => ?_)
      replace hP : va_P (dC, dI) classes (wM ad cI (zs N 7 (zu (N 7) 2 a)) k0 k1 k2 k3) H := hP
      refine lv_aload_n hx hb d_M_heights_29 rfl (lv_at hl 0 rfl) ?_
      refine lv_iload_n hx hb d_M_heights_30 rfl (lv_at hl 2 rfl) ?_
      refine va_put (D := (dC, dI)) (ci := 2) (v := .int (zi b)) (ty := .int) (C := R_M) (T := T_M) (N := 17) hx hb hw i_M t_M ty_M nm_M hown hK hP (hD _ _ _ _ _) hS 0 rfl rfl 10 (by decide) (hw _ m_236) (fun _ h9 => h9) rfl (by decide +kernel) rfl rfl (Nat.le_of_ble_eq_true rfl) d_M_heights_31 (fun H locs hP _ hS => ?_)
      replace hP : va_P (dC, dI) classes (wM ad cI (zs (zs N 7 (zu (N 7) 2 a)) 7 (zu ((zs N 7 (zu (N 7) 2 a)) 7) 3 b)) k0 k1 k2 k3) H := hP
      refine lv_iconst (v := zi 1) hx hb d_M_heights_34 rfl ?_
      subst hq
      exact zw_z hx hb hr hlocks (zB.w (zb_c 1) (by decide) (by decide)) rfl hP hS d_M_heights_35
    · replace hq := (if_pos c_5).symm.trans hq
      have r_8 : zB 0 0 (f_M_within b 0 1000) := ⟨(Int.le_of_eq c_5.symm), (Int.le_of_eq c_5)⟩
      refine lv_iconst (v := zi 0) hx hb d_M_heights_22 rfl ?_
      subst hq
      exact zw_z hx hb hr hlocks (zB.w (zb_c 0) (by decide) (by decide)) rfl hP hS d_M_heights_23
def f_M_clear (N : Nat → Int → Int) (a b d : Int) : Int × (Nat → Int → Int) := if (f_M_isStation N a) = 0 then ((0, N)) else (if (f_M_within b 0 1) = 0 then ((0, N)) else (if (f_M_within d 0 1000) = 0 then ((0, N)) else ((1, zs N 5 (zu (N 5) ((2 * a) + b) d)))))
set_option maxHeartbeats 4000000 in
set_option maxRecDepth 100000 in
theorem k_M_clear (l : Launch) (dC : Nat → ClassId) (dI : Nat → Nat → Nat) (ad : Nat → Nat) (cI : ClassId) (N : Nat → Int → Int) (k0 k1 k2 k3 : Int) (hI : jN N) (hj : zJ 8 ad) (a b d : Int) (hb_a : zB (-2147483648) 2147483647 a) (hb_b : zB (-2147483648) 2147483647 b) (hb_d : zB (-2147483648) 2147483647 d) : Met l y_M_clear (Cond.code y_M_clear c_M_clear 4 (some .boolean) :: zT) { frames := 1, cells := 0, slots := 0, locals := 22 } (va_Pc ([.ref (ad 0), .int (zi a), .int (zi b), .int (zi d)] : List Value) (zWM dC dI ad cI N k0 k1 k2 k3)) (zQ (some (.int (zi (f_M_clear N a b d).1))) (fun H => va_P (dC, dI) classes (wM ad cI (f_M_clear N a b d).2 k0 k1 k2 k3) H) (zAM ad)) 0 0 (zAM ad) := by
  refine zh (cc := c_M_clear) (C := R_M) (by decide) rfl rfl (Nat.le_of_ble_eq_true rfl) ?_
  intro p e s m below meth c ls hx hb hr hlocks hml hown hname hts hl hB
  have hw : ∀ w9 ∈ zT, w9.before ([.ref (ad 0), .int (zi a), .int (zi b), .int (zi d)] : List Value).toArray s = true := fun w9 h => hts w9 (List.mem_cons_of_mem _ h)
  obtain ⟨hP, hK⟩ := hB
  obtain ⟨hn0, hn1⟩ := id (jN_s0 hI)
  have hD := zDM hj cI
  have hS : va_S (zAM ad) s.heap s.heap [] := va_S.rf
  obtain ⟨hz0, hz1⟩ := id (jN_s1 hI)
  obtain ⟨hl_a, hh_a⟩ := id hb_a
  obtain ⟨hl_b, hh_b⟩ := id hb_b
  obtain ⟨hl_d, hh_d⟩ := id hb_d
  generalize hq : f_M_clear N a b d = r
  unfold f_M_clear at hq
  replace hl : lv_has ls 4 [(0, .ref (ad 0)), (1, .int (zi a)), (2, .int (zi b)), (3, .int (zi d))] := hl
  refine lv_aload_n hx hb d_M_clear_0 rfl (lv_at hl 0 rfl) ?_
  refine lv_iload_n hx hb d_M_clear_1 rfl (lv_at hl 1 rfl) ?_
  refine zc_n (va_runV (As := [.int (zi a)]) (rest := []) ⟨hx, hb, hml, hown, hts⟩ (k_M_isStation l dC dI ad cI N k0 k1 k2 k3 hI a (zB.w hb_a (by decide) (by decide)) ) (zcV 1 hts m_273 m_3 m_271 m_272 m_392 rfl rfl q_M_isStation ⟨Nat.le_of_ble_eq_true rfl, Nat.le_of_ble_eq_true rfl⟩) (zpM0 hP hK [.int (zi a)]) rfl rfl hl.1 rfl (lv_room (Nat.le_of_ble_eq_true rfl)) d_M_clear_2 ⟨Nat.zero_le _, Nat.zero_le _⟩) ?_
  refine zr_if_eq (tgt := 28) hx hb (zB.I (bb_M_isStation N a) (by decide) (by decide)) d_M_clear_5 (by decide) (fun c_1 => ?_) (fun c_1 => ?_)
  · replace hq := (if_pos c_1).symm.trans hq
    have r_2 : zB 0 0 (f_M_isStation N a) := ⟨(Int.le_of_eq c_1.symm), (Int.le_of_eq c_1)⟩
    refine lv_iconst (v := zi 0) hx hb d_M_clear_28 rfl ?_
    subst hq
    exact zw_z hx hb hr hlocks (zB.w (zb_c 0) (by decide) (by decide)) rfl hP hS d_M_clear_29
  · replace hq := (if_neg c_1).symm.trans hq
    have r_3 : zB 1 1 (f_M_isStation N a) := ⟨(by have := (bb_M_isStation N a).1; omega), (bb_M_isStation N a).2⟩
    have g_4 := gf_M_isStation hI c_1
    obtain ⟨g_4l, g_4h⟩ := id g_4.1
    have g_4n := g_4.2
    refine lv_iload_n hx hb d_M_clear_8 rfl (lv_at hl 2 rfl) ?_
    refine lv_iconst (v := zi 0) hx hb d_M_clear_9 rfl ?_
    refine lv_iconst (v := zi 1) hx hb d_M_clear_10 rfl ?_
    refine zc_n (va_runS (As := [.int (zi b), .int (zi 0), .int (zi 1)]) (rest := []) ⟨hx, hb, hml, hown, hts⟩ (k_M_within l b 0 1 (zB.w hb_b (by decide) (by decide)) (zB.w (zb_c 0) (by decide) (by decide)) (zB.w (zb_c 1) (by decide) (by decide)) ) (zcS 3 hts m_252 m_3 m_250 m_251 rfl rfl q_M_within ⟨Nat.le_of_ble_eq_true rfl, Nat.le_of_ble_eq_true rfl⟩) (zp0 [.int (zi b), .int (zi 0), .int (zi 1)]) rfl rfl hl.1 rfl (lv_room (Nat.le_of_ble_eq_true rfl)) d_M_clear_11 ⟨Nat.zero_le _, Nat.zero_le _⟩) ?_
    refine zr_if_eq (tgt := 28) hx hb (zB.I (bb_M_within b 0 1) (by decide) (by decide)) d_M_clear_14 (by decide) (fun c_5 => ?_) (fun c_5 => ?_)
    · replace hq := (if_pos c_5).symm.trans hq
      have r_6 : zB 0 0 (f_M_within b 0 1) := ⟨(Int.le_of_eq c_5.symm), (Int.le_of_eq c_5)⟩
      refine lv_iconst (v := zi 0) hx hb d_M_clear_28 rfl ?_
      subst hq
      exact zw_z hx hb hr hlocks (zB.w (zb_c 0) (by decide) (by decide)) rfl hP hS d_M_clear_29
    · replace hq := (if_neg c_5).symm.trans hq
      have r_7 : zB 1 1 (f_M_within b 0 1) := ⟨(by have := (bb_M_within b 0 1).1; omega), (bb_M_within b 0 1).2⟩
      have g_8 := gf_M_within c_5
      obtain ⟨g_8l, g_8h⟩ := id g_8
      refine lv_iload_n hx hb d_M_clear_17 rfl (lv_at hl 3 rfl) ?_
      refine lv_iconst (v := zi 0) hx hb d_M_clear_18 rfl ?_
      refine lv_sipush (v := zi 1000) hx hb d_M_clear_19 (by decide) ?_
      refine zc_n (va_runS (As := [.int (zi d), .int (zi 0), .int (zi 1000)]) (rest := []) ⟨hx, hb, hml, hown, hts⟩ (k_M_within l d 0 1000 (zB.w hb_d (by decide) (by decide)) (zB.w (zb_c 0) (by decide) (by decide)) (zB.w (zb_c 1000) (by decide) (by decide)) ) (zcS 3 hts m_252 m_3 m_250 m_251 rfl rfl q_M_within ⟨Nat.le_of_ble_eq_true rfl, Nat.le_of_ble_eq_true rfl⟩) (zp0 [.int (zi d), .int (zi 0), .int (zi 1000)]) rfl rfl hl.1 rfl (lv_room (Nat.le_of_ble_eq_true rfl)) d_M_clear_22 ⟨Nat.zero_le _, Nat.zero_le _⟩) ?_
      refine zr_if_ne (tgt := 30) hx hb (zB.I (bb_M_within d 0 1000) (by decide) (by decide)) d_M_clear_25 (by decide) (fun c_9 => ?_) (fun c_9 => ?_)
      · replace hq := (if_neg c_9).symm.trans hq
        have r_10 : zB 1 1 (f_M_within d 0 1000) := ⟨(by have := (bb_M_within d 0 1000).1; omega), (bb_M_within d 0 1000).2⟩
        have g_11 := gf_M_within c_9
        obtain ⟨g_11l, g_11h⟩ := id g_11
        refine lv_aload_n hx hb d_M_clear_30 rfl (lv_at hl 0 rfl) ?_
        refine va_get (D := (dC, dI)) (ci := 2) (v := .ref (ad 6)) (C := R_M) (T := T_M) (N := 17) hx hb hw i_M hown hK hP 0 rfl rfl 6 (by decide) (hw _ m_232) (fun _ h9 => h9) rfl d_M_clear_31 ?_
        refine lv_iconst (v := zi 2) hx hb d_M_clear_34 rfl ?_
        refine lv_iload_n hx hb d_M_clear_35 rfl (lv_at hl 1 rfl) ?_
        have b_12 : zB 0 118 (2 * a) := zB.w (zb_mulq (zb_c 2) g_4.1 (by decide) (by decide)) (by decide) (by decide)
        refine zr_imul hx hb d_M_clear_36 ?_
        refine lv_iload_n hx hb d_M_clear_37 rfl (lv_at hl 2 rfl) ?_
        have b_13 : zB 0 119 ((2 * a) + b) := zB.w (zb_add b_12 g_8) (by decide) (by decide)
        refine zr_iadd hx hb d_M_clear_38 ?_
        refine lv_iload_n hx hb d_M_clear_39 rfl (lv_at hl 3 rfl) ?_
        refine zr_iast hx hb hK hP (hD _ _ _ _ _) hS 6 0 (cA := cI) (n := 120) (g := N 5) rfl rfl (i := (2 * a) + b) (v := d) (by omega) (by omega) (by decide) d_M_clear_40 (fun H locs hP _ hS => ?_)
        replace hP : va_P (dC, dI) classes (wM ad cI (zs N 5 (zu (N 5) ((2 * a) + b) d)) k0 k1 k2 k3) H := hP
        refine lv_iconst (v := zi 1) hx hb d_M_clear_41 rfl ?_
        subst hq
        exact zw_z hx hb hr hlocks (zB.w (zb_c 1) (by decide) (by decide)) rfl hP hS d_M_clear_42
      · replace hq := (if_pos c_9).symm.trans hq
        have r_14 : zB 0 0 (f_M_within d 0 1000) := ⟨(Int.le_of_eq c_9.symm), (Int.le_of_eq c_9)⟩
        refine lv_iconst (v := zi 0) hx hb d_M_clear_28 rfl ?_
        subst hq
        exact zw_z hx hb hr hlocks (zB.w (zb_c 0) (by decide) (by decide)) rfl hP hS d_M_clear_29
def f_M_speed (N : Nat → Int → Int) (a b : Int) : Int × (Nat → Int → Int) := if (f_M_isStation N a) = 0 then ((0, N)) else (if (f_M_within b 0 200) = 0 then ((0, N)) else ((1, zs N 4 (zu (N 4) a b))))
set_option maxHeartbeats 4000000 in
set_option maxRecDepth 100000 in
theorem k_M_speed (l : Launch) (dC : Nat → ClassId) (dI : Nat → Nat → Nat) (ad : Nat → Nat) (cI : ClassId) (N : Nat → Int → Int) (k0 k1 k2 k3 : Int) (hI : jN N) (hj : zJ 8 ad) (a b : Int) (hb_a : zB (-2147483648) 2147483647 a) (hb_b : zB (-2147483648) 2147483647 b) : Met l y_M_speed (Cond.code y_M_speed c_M_speed 3 (some .boolean) :: zT) { frames := 1, cells := 0, slots := 0, locals := 22 } (va_Pc ([.ref (ad 0), .int (zi a), .int (zi b)] : List Value) (zWM dC dI ad cI N k0 k1 k2 k3)) (zQ (some (.int (zi (f_M_speed N a b).1))) (fun H => va_P (dC, dI) classes (wM ad cI (f_M_speed N a b).2 k0 k1 k2 k3) H) (zAM ad)) 0 0 (zAM ad) := by
  refine zh (cc := c_M_speed) (C := R_M) (by decide) rfl rfl (Nat.le_of_ble_eq_true rfl) ?_
  intro p e s m below meth c ls hx hb hr hlocks hml hown hname hts hl hB
  have hw : ∀ w9 ∈ zT, w9.before ([.ref (ad 0), .int (zi a), .int (zi b)] : List Value).toArray s = true := fun w9 h => hts w9 (List.mem_cons_of_mem _ h)
  obtain ⟨hP, hK⟩ := hB
  obtain ⟨hn0, hn1⟩ := id (jN_s0 hI)
  have hD := zDM hj cI
  have hS : va_S (zAM ad) s.heap s.heap [] := va_S.rf
  obtain ⟨hz0, hz1⟩ := id (jN_s1 hI)
  obtain ⟨hl_a, hh_a⟩ := id hb_a
  obtain ⟨hl_b, hh_b⟩ := id hb_b
  generalize hq : f_M_speed N a b = r
  unfold f_M_speed at hq
  replace hl : lv_has ls 3 [(0, .ref (ad 0)), (1, .int (zi a)), (2, .int (zi b))] := hl
  refine lv_aload_n hx hb d_M_speed_0 rfl (lv_at hl 0 rfl) ?_
  refine lv_iload_n hx hb d_M_speed_1 rfl (lv_at hl 1 rfl) ?_
  refine zc_n (va_runV (As := [.int (zi a)]) (rest := []) ⟨hx, hb, hml, hown, hts⟩ (k_M_isStation l dC dI ad cI N k0 k1 k2 k3 hI a (zB.w hb_a (by decide) (by decide)) ) (zcV 1 hts m_273 m_3 m_271 m_272 m_392 rfl rfl q_M_isStation ⟨Nat.le_of_ble_eq_true rfl, Nat.le_of_ble_eq_true rfl⟩) (zpM0 hP hK [.int (zi a)]) rfl rfl hl.1 rfl (lv_room (Nat.le_of_ble_eq_true rfl)) d_M_speed_2 ⟨Nat.zero_le _, Nat.zero_le _⟩) ?_
  refine zr_if_eq (tgt := 19) hx hb (zB.I (bb_M_isStation N a) (by decide) (by decide)) d_M_speed_5 (by decide) (fun c_1 => ?_) (fun c_1 => ?_)
  · replace hq := (if_pos c_1).symm.trans hq
    have r_2 : zB 0 0 (f_M_isStation N a) := ⟨(Int.le_of_eq c_1.symm), (Int.le_of_eq c_1)⟩
    refine lv_iconst (v := zi 0) hx hb d_M_speed_19 rfl ?_
    subst hq
    exact zw_z hx hb hr hlocks (zB.w (zb_c 0) (by decide) (by decide)) rfl hP hS d_M_speed_20
  · replace hq := (if_neg c_1).symm.trans hq
    have r_3 : zB 1 1 (f_M_isStation N a) := ⟨(by have := (bb_M_isStation N a).1; omega), (bb_M_isStation N a).2⟩
    have g_4 := gf_M_isStation hI c_1
    obtain ⟨g_4l, g_4h⟩ := id g_4.1
    have g_4n := g_4.2
    refine lv_iload_n hx hb d_M_speed_8 rfl (lv_at hl 2 rfl) ?_
    refine lv_iconst (v := zi 0) hx hb d_M_speed_9 rfl ?_
    refine lv_sipush (v := zi 200) hx hb d_M_speed_10 (by decide) ?_
    refine zc_n (va_runS (As := [.int (zi b), .int (zi 0), .int (zi 200)]) (rest := []) ⟨hx, hb, hml, hown, hts⟩ (k_M_within l b 0 200 (zB.w hb_b (by decide) (by decide)) (zB.w (zb_c 0) (by decide) (by decide)) (zB.w (zb_c 200) (by decide) (by decide)) ) (zcS 3 hts m_252 m_3 m_250 m_251 rfl rfl q_M_within ⟨Nat.le_of_ble_eq_true rfl, Nat.le_of_ble_eq_true rfl⟩) (zp0 [.int (zi b), .int (zi 0), .int (zi 200)]) rfl rfl hl.1 rfl (lv_room (Nat.le_of_ble_eq_true rfl)) d_M_speed_13 ⟨Nat.zero_le _, Nat.zero_le _⟩) ?_
    refine zr_if_ne (tgt := 21) hx hb (zB.I (bb_M_within b 0 200) (by decide) (by decide)) d_M_speed_16 (by decide) (fun c_5 => ?_) (fun c_5 => ?_)
    · replace hq := (if_neg c_5).symm.trans hq
      have r_6 : zB 1 1 (f_M_within b 0 200) := ⟨(by have := (bb_M_within b 0 200).1; omega), (bb_M_within b 0 200).2⟩
      have g_7 := gf_M_within c_5
      obtain ⟨g_7l, g_7h⟩ := id g_7
      refine lv_aload_n hx hb d_M_speed_21 rfl (lv_at hl 0 rfl) ?_
      refine va_get (D := (dC, dI)) (ci := 2) (v := .ref (ad 5)) (C := R_M) (T := T_M) (N := 17) hx hb hw i_M hown hK hP 0 rfl rfl 5 (by decide) (hw _ m_231) (fun _ h9 => h9) rfl d_M_speed_22 ?_
      refine lv_iload_n hx hb d_M_speed_25 rfl (lv_at hl 1 rfl) ?_
      refine lv_iload_n hx hb d_M_speed_26 rfl (lv_at hl 2 rfl) ?_
      refine zr_iast hx hb hK hP (hD _ _ _ _ _) hS 5 0 (cA := cI) (n := 60) (g := N 4) rfl rfl (i := a) (v := b) (by omega) (by omega) (by decide) d_M_speed_27 (fun H locs hP _ hS => ?_)
      replace hP : va_P (dC, dI) classes (wM ad cI (zs N 4 (zu (N 4) a b)) k0 k1 k2 k3) H := hP
      refine lv_iconst (v := zi 1) hx hb d_M_speed_28 rfl ?_
      subst hq
      exact zw_z hx hb hr hlocks (zB.w (zb_c 1) (by decide) (by decide)) rfl hP hS d_M_speed_29
    · replace hq := (if_pos c_5).symm.trans hq
      have r_8 : zB 0 0 (f_M_within b 0 200) := ⟨(Int.le_of_eq c_5.symm), (Int.le_of_eq c_5)⟩
      refine lv_iconst (v := zi 0) hx hb d_M_speed_19 rfl ?_
      subst hq
      exact zw_z hx hb hr hlocks (zB.w (zb_c 0) (by decide) (by decide)) rfl hP hS d_M_speed_20
def f_M_brake (N : Nat → Int → Int) (a b : Int) : Int × (Nat → Int → Int) := if (f_M_within a 0 100) = 0 then ((0, N)) else (if (f_M_within b 50 1000) = 0 then ((0, N)) else ((1, zs (zs N 7 (zu (N 7) 4 a)) 7 (zu ((zs N 7 (zu (N 7) 4 a)) 7) 5 b))))
set_option maxHeartbeats 4000000 in
set_option maxRecDepth 100000 in
theorem k_M_brake (l : Launch) (dC : Nat → ClassId) (dI : Nat → Nat → Nat) (ad : Nat → Nat) (cI : ClassId) (N : Nat → Int → Int) (k0 k1 k2 k3 : Int) (hI : jN N) (hj : zJ 8 ad) (a b : Int) (hb_a : zB (-2147483648) 2147483647 a) (hb_b : zB (-2147483648) 2147483647 b) : Met l y_M_brake (Cond.code y_M_brake c_M_brake 3 (some .boolean) :: zT) { frames := 1, cells := 0, slots := 0, locals := 22 } (va_Pc ([.ref (ad 0), .int (zi a), .int (zi b)] : List Value) (zWM dC dI ad cI N k0 k1 k2 k3)) (zQ (some (.int (zi (f_M_brake N a b).1))) (fun H => va_P (dC, dI) classes (wM ad cI (f_M_brake N a b).2 k0 k1 k2 k3) H) (zAM ad)) 0 0 (zAM ad) := by
  refine zh (cc := c_M_brake) (C := R_M) (by decide) rfl rfl (Nat.le_of_ble_eq_true rfl) ?_
  intro p e s m below meth c ls hx hb hr hlocks hml hown hname hts hl hB
  have hw : ∀ w9 ∈ zT, w9.before ([.ref (ad 0), .int (zi a), .int (zi b)] : List Value).toArray s = true := fun w9 h => hts w9 (List.mem_cons_of_mem _ h)
  obtain ⟨hP, hK⟩ := hB
  obtain ⟨hn0, hn1⟩ := id (jN_s0 hI)
  have hD := zDM hj cI
  have hS : va_S (zAM ad) s.heap s.heap [] := va_S.rf
  obtain ⟨hz0, hz1⟩ := id (jN_s1 hI)
  obtain ⟨hl_a, hh_a⟩ := id hb_a
  obtain ⟨hl_b, hh_b⟩ := id hb_b
  generalize hq : f_M_brake N a b = r
  unfold f_M_brake at hq
  replace hl : lv_has ls 3 [(0, .ref (ad 0)), (1, .int (zi a)), (2, .int (zi b))] := hl
  refine lv_iload_n hx hb d_M_brake_0 rfl (lv_at hl 1 rfl) ?_
  refine lv_iconst (v := zi 0) hx hb d_M_brake_1 rfl ?_
  refine lv_bipush (v := zi 100) hx hb d_M_brake_2 (by decide) ?_
  refine zc_n (va_runS (As := [.int (zi a), .int (zi 0), .int (zi 100)]) (rest := []) ⟨hx, hb, hml, hown, hts⟩ (k_M_within l a 0 100 (zB.w hb_a (by decide) (by decide)) (zB.w (zb_c 0) (by decide) (by decide)) (zB.w (zb_c 100) (by decide) (by decide)) ) (zcS 3 hts m_252 m_3 m_250 m_251 rfl rfl q_M_within ⟨Nat.le_of_ble_eq_true rfl, Nat.le_of_ble_eq_true rfl⟩) (zp0 [.int (zi a), .int (zi 0), .int (zi 100)]) rfl rfl hl.1 rfl (lv_room (Nat.le_of_ble_eq_true rfl)) d_M_brake_4 ⟨Nat.zero_le _, Nat.zero_le _⟩) ?_
  refine zr_if_eq (tgt := 22) hx hb (zB.I (bb_M_within a 0 100) (by decide) (by decide)) d_M_brake_7 (by decide) (fun c_1 => ?_) (fun c_1 => ?_)
  · replace hq := (if_pos c_1).symm.trans hq
    have r_2 : zB 0 0 (f_M_within a 0 100) := ⟨(Int.le_of_eq c_1.symm), (Int.le_of_eq c_1)⟩
    refine lv_iconst (v := zi 0) hx hb d_M_brake_22 rfl ?_
    subst hq
    exact zw_z hx hb hr hlocks (zB.w (zb_c 0) (by decide) (by decide)) rfl hP hS d_M_brake_23
  · replace hq := (if_neg c_1).symm.trans hq
    have r_3 : zB 1 1 (f_M_within a 0 100) := ⟨(by have := (bb_M_within a 0 100).1; omega), (bb_M_within a 0 100).2⟩
    have g_4 := gf_M_within c_1
    obtain ⟨g_4l, g_4h⟩ := id g_4
    refine lv_iload_n hx hb d_M_brake_10 rfl (lv_at hl 2 rfl) ?_
    refine lv_bipush (v := zi 50) hx hb d_M_brake_11 (by decide) ?_
    refine lv_sipush (v := zi 1000) hx hb d_M_brake_13 (by decide) ?_
    refine zc_n (va_runS (As := [.int (zi b), .int (zi 50), .int (zi 1000)]) (rest := []) ⟨hx, hb, hml, hown, hts⟩ (k_M_within l b 50 1000 (zB.w hb_b (by decide) (by decide)) (zB.w (zb_c 50) (by decide) (by decide)) (zB.w (zb_c 1000) (by decide) (by decide)) ) (zcS 3 hts m_252 m_3 m_250 m_251 rfl rfl q_M_within ⟨Nat.le_of_ble_eq_true rfl, Nat.le_of_ble_eq_true rfl⟩) (zp0 [.int (zi b), .int (zi 50), .int (zi 1000)]) rfl rfl hl.1 rfl (lv_room (Nat.le_of_ble_eq_true rfl)) d_M_brake_16 ⟨Nat.zero_le _, Nat.zero_le _⟩) ?_
    refine zr_if_ne (tgt := 24) hx hb (zB.I (bb_M_within b 50 1000) (by decide) (by decide)) d_M_brake_19 (by decide) (fun c_5 => ?_) (fun c_5 => ?_)
    · replace hq := (if_neg c_5).symm.trans hq
      have r_6 : zB 1 1 (f_M_within b 50 1000) := ⟨(by have := (bb_M_within b 50 1000).1; omega), (bb_M_within b 50 1000).2⟩
      have g_7 := gf_M_within c_5
      obtain ⟨g_7l, g_7h⟩ := id g_7
      refine lv_aload_n hx hb d_M_brake_24 rfl (lv_at hl 0 rfl) ?_
      refine lv_iload_n hx hb d_M_brake_25 rfl (lv_at hl 1 rfl) ?_
      refine va_put (D := (dC, dI)) (ci := 2) (v := .int (zi a)) (ty := .int) (C := R_M) (T := T_M) (N := 17) hx hb hw i_M t_M ty_M nm_M hown hK hP (hD _ _ _ _ _) hS 0 rfl rfl 11 (by decide) (hw _ m_237) (fun _ h9 => h9) rfl (by decide +kernel) rfl rfl (Nat.le_of_ble_eq_true rfl) d_M_brake_26 (fun H locs hP _ hS => ?_)
      replace hP : va_P (dC, dI) classes (wM ad cI (zs N 7 (zu (N 7) 4 a)) k0 k1 k2 k3) H := hP
      refine lv_aload_n hx hb d_M_brake_29 rfl (lv_at hl 0 rfl) ?_
      refine lv_iload_n hx hb d_M_brake_30 rfl (lv_at hl 2 rfl) ?_
      refine va_put (D := (dC, dI)) (ci := 2) (v := .int (zi b)) (ty := .int) (C := R_M) (T := T_M) (N := 17) hx hb hw i_M t_M ty_M nm_M hown hK hP (hD _ _ _ _ _) hS 0 rfl rfl 12 (by decide) (hw _ m_238) (fun _ h9 => h9) rfl (by decide +kernel) rfl rfl (Nat.le_of_ble_eq_true rfl) d_M_brake_31 (fun H locs hP _ hS => ?_)
      replace hP : va_P (dC, dI) classes (wM ad cI (zs (zs N 7 (zu (N 7) 4 a)) 7 (zu ((zs N 7 (zu (N 7) 4 a)) 7) 5 b)) k0 k1 k2 k3) H := hP
      refine lv_iconst (v := zi 1) hx hb d_M_brake_34 rfl ?_
      subst hq
      exact zw_z hx hb hr hlocks (zB.w (zb_c 1) (by decide) (by decide)) rfl hP hS d_M_brake_35
    · replace hq := (if_pos c_5).symm.trans hq
      have r_8 : zB 0 0 (f_M_within b 50 1000) := ⟨(Int.le_of_eq c_5.symm), (Int.le_of_eq c_5)⟩
      refine lv_iconst (v := zi 0) hx hb d_M_brake_22 rfl ?_
      subst hq
      exact zw_z hx hb hr hlocks (zB.w (zb_c 0) (by decide) (by decide)) rfl hP hS d_M_brake_23
