section P3
variable {S N : Nat → Int → Int}
theorem z_max20 (x : Int) : zmax 20 x = if x < 20 then 20 else x := by
  unfold zmax
  repeat' split
  all_goals omega
theorem e_slope (h : RR S N) {a : Int} (v : Int) (ha : 0 ≤ a) (ha' : a < N 7 0) : f_S_slopeBeyond S a v = if v = 0 then (if f_M_isStation N (a + 1) = 0 then 0 else Int.tdiv (981 * ((N 2 (a + 1)) - (N 2 a))) (10 * ((N 3 (a + 1)) - (N 3 a)))) else (if f_M_isStation N (a - 1) = 0 then 0 else Int.tdiv (981 * ((N 2 (a - 1)) - (N 2 a))) (10 * ((N 3 a) - (N 3 (a - 1))))) := by
  have hj := h.2.1
  unfold f_S_slopeBeyond
  rw [e_station h, e_station h, rr_2 h, rr_3 h]
  by_cases c : v = 0
  · rw [if_pos c, if_pos c]
    by_cases c2 : f_M_isStation N (a + 1) = 0
    · rw [if_pos c2, if_pos c2]
    · have hs := g_st c2
      have := e_mono hj ha (show a < a + 1 by omega) hs.2
      rw [if_neg c2, if_neg c2, z_abp (show 0 ≤ N 3 (a + 1) - N 3 a by omega), if_neg (by omega)]
  · rw [if_neg c, if_neg c]
    by_cases c2 : f_M_isStation N (a - 1) = 0
    · rw [if_pos c2, if_pos c2]
    · have hs := g_st c2
      have := e_mono hj hs.1 (show a - 1 < a by omega) ha'
      rw [if_neg c2, if_neg c2, z_abn (show N 3 (a - 1) - N 3 a ≤ 0 by omega), if_neg (by omega), show -(N 3 (a - 1) - N 3 a) = N 3 a - N 3 (a - 1) by omega]
theorem e_need (h : RR S N) {a : Int} (v w : Int) (ha : 0 ≤ a) (ha' : a < N 7 0) : f_S_needWith S a v w = f_M_needOf N a v w := by
  unfold f_S_needWith f_M_needOf
  rw [e_slope h v ha ha', rr_r h, rr_b h, z_max20, show w * w * 100000 = 100000 * w * w by rw [Int.mul_comm (w * w), Int.mul_assoc]]
  by_cases c : v = 0
  · rw [if_pos c, if_pos c]
    by_cases c2 : f_M_isStation N (a + 1) = 0
    · rw [if_pos c2, if_pos c2]
      by_cases c3 : N 7 5 + 0 < 20
      · rw [if_pos c3, if_pos c3]
      · rw [if_neg c3, if_neg c3]
    · rw [if_neg c2, if_neg c2]
      by_cases c3 : N 7 5 + Int.tdiv (981 * ((N 2 (a + 1)) - (N 2 a))) (10 * ((N 3 (a + 1)) - (N 3 a))) < 20
      · rw [if_pos c3, if_pos c3]
      · rw [if_neg c3, if_neg c3]
  · rw [if_neg c, if_neg c]
    by_cases c2 : f_M_isStation N (a - 1) = 0
    · rw [if_pos c2, if_pos c2]
      by_cases c3 : N 7 5 + 0 < 20
      · rw [if_pos c3, if_pos c3]
      · rw [if_neg c3, if_neg c3]
    · rw [if_neg c2, if_neg c2]
      by_cases c3 : N 7 5 + Int.tdiv (981 * ((N 2 (a - 1)) - (N 2 a))) (10 * ((N 3 a) - (N 3 (a - 1)))) < 20
      · rw [if_pos c3, if_pos c3]
      · rw [if_neg c3, if_neg c3]
theorem e_road (h : RR S N) (a v : Int) : f_S_roadBeyond S a v = f_M_remaining N a v := by
  unfold f_S_roadBeyond f_M_remaining
  rw [rr_3 h, rr_n h]
theorem e_blind (h : RR S N) {a : Int} (v : Int) (ha : 0 ≤ a) (ha' : a < N 7 0) : f_S_isBlind S a v = f_M_isBlind N a v := by
  unfold f_S_isBlind f_M_isBlind
  rw [e_road h, e_need h v _ ha ha', e_sight h v ha ha', rr_4 h]
theorem E_need (hR : RR S N) (a v : Int) (_ : zB (-2147483648) 2147483647 a) (_ : zB 0 1 v) : f_S_need S a v = f_M_need N a v := by
  unfold f_S_need f_M_need
  rw [e_station hR]
  by_cases c : f_M_isStation N a = 0
  · rw [if_pos c, if_pos c]
  · rw [if_neg c, if_neg c, e_need hR v _ (g_st c).1 (g_st c).2, rr_4 hR]
theorem e_all (h : RR S N) {a : Int} (v : Int) (ha : 0 ≤ a) (ha' : a < N 7 0) : ∀ (k : Nat) (x : Int), f_S_allowed_l S a v 0 k x = f_M_allowed_l N a v 0 k x := by
  intro k
  induction k with
  | zero => intro x; rfl
  | succ k ih =>
    intro x
    rw [f_S_allowed_l_s, f_M_allowed_l_s, e_road h, e_need h v _ ha ha', e_sight h v ha ha', ih]
theorem E_allowed (hR : RR S N) (a v : Int) (_ : zB (-2147483648) 2147483647 a) (_ : zB 0 1 v) : f_S_allowed S a v = f_M_allowed N a v := by
  unfold f_S_allowed f_M_allowed
  rw [e_station hR]
  by_cases c : f_M_isStation N a = 0
  · rw [if_pos c, if_pos c]
  · rw [if_neg c, if_neg c, e_all hR v (g_st c).1 (g_st c).2]
theorem e_over (h : RR S N) (a : Int) : ∀ (k : Nat) (w t i t' : Int), 0 ≤ i → 0 ≤ w → ((t = -1 ∧ t' = i) ∨ (¬ t = -1 ∧ t' = t)) → f_S_overtake_l S a (fun w => w) k w t i = f_M_overtake_l N a (fun w => w) k w t' i := by
  intro k
  induction k with
  | zero => intro w t i t' _ _ _; rfl
  | succ k ih =>
    intro w t i t' hi hw ht
    rw [f_S_overtake_l_s, f_M_overtake_l_s, rr_n h, rr_3 h]
    by_cases c : i < N 7 0
    · rw [if_pos c, if_pos c, e_sight h 0 hi c]
      by_cases c2 : f_M_sightOf N i 0 < a
      · rw [if_pos c2, if_pos c2, if_neg (show ¬ w < 0 by omega)]
        exact ih w (-1) (i + 1) (i + 1) (by omega) hw (Or.inl ⟨rfl, rfl⟩)
      · rw [if_neg c2, if_neg c2]
        rcases ht with ⟨h1, h2⟩ | ⟨h1, h2⟩
        · subst h2
          rw [if_pos h1, if_neg (show ¬ w < N 3 t' - N 3 t' by omega), show zmax w (N 3 t' - N 3 t') = w from if_neg (by omega)]
          exact ih w t' (t' + 1) t' (by omega) hw (Or.inr ⟨by omega, rfl⟩)
        · subst h2
          rw [if_neg h1]
          by_cases c3 : w < N 3 i - N 3 t'
          · rw [if_pos c3, show zmax w (N 3 i - N 3 t') = N 3 i - N 3 t' from if_pos c3]
            exact ih _ t' (i + 1) t' (by omega) (by omega) (Or.inr ⟨h1, rfl⟩)
          · rw [if_neg c3, show zmax w (N 3 i - N 3 t') = w from if_neg c3]
            exact ih _ t' (i + 1) t' (by omega) hw (Or.inr ⟨h1, rfl⟩)
    · rw [if_neg c, if_neg c]
theorem E_overtake (hR : RR S N) (a : Int) (_ : zB (-2147483648) 2147483647 a) : f_S_overtake S a = f_M_overtake N a := by
  unfold f_S_overtake f_M_overtake
  rw [e_within]
  by_cases c : f_M_within a 1 1000000 = 0
  · rw [if_pos c, if_pos c]
  · rw [if_neg c, if_neg c]
    exact e_over hR a 61 0 (-1) 0 0 (by decide) (by decide) (Or.inl ⟨rfl, rfl⟩)
theorem e_light (h : RR S N) (a b d : Int) : ∀ (k : Nat) (t : Int), f_S_light_l S a b d (fun t => t) k (N 3 t - N 3 a) (t + 1) = f_M_light_l N a b d (fun t => N 3 t - N 3 a) k t := by
  intro k
  induction k with
  | zero => intro t; rfl
  | succ k ih =>
    intro t
    rw [f_S_light_l_s, f_M_light_l_s, rr_n h, rr_3 h, rr_2 h, ih]
theorem E_light (hR : RR S N) (a b d : Int) (_ : zB (-2147483648) 2147483647 a) (_ : zB (-2147483648) 2147483647 b) (_ : zB (-2147483648) 2147483647 d) : f_S_light S a b d = f_M_light N a b d := by
  unfold f_S_light f_M_light
  rw [e_station hR, e_within, e_within, ← e_light hR, Int.sub_self]
theorem e_wid (h : RR S N) (w i u j a b : Int) (z : Int → Int) (F : Nat → Int → Int) (hF0 : ∀ t, F 0 t = 0) (hF : ∀ k t, F (k + 1) t = if 1000 < t then (z t) else (if ((f_M_square t) * (f_M_lengthSquare N i j)) < (f_M_square (f_M_beside N i j a)) then (F k (t + 1)) else (z t))) : ∀ (k : Nat) (t : Int), 0 ≤ t → t ≤ 1001 → 1001 - t < (k : Int) → F k t = z (f_S_widened_l S u i j a b (fun t => t) k t) := by
  intro k
  induction k with
  | zero => intro t _ _ hk; exact absurd hk (by omega)
  | succ k ih =>
    intro t h0 h1 hk
    rw [hF, f_S_widened_l_s, e_cross h, e_len h]
    by_cases c : 1000 < t
    · rw [if_pos c, if_pos c]
    · rw [if_neg c, if_neg c]
      unfold f_S_isFarther f_M_square
      by_cases c2 : t * t * f_M_lengthSquare N i j < f_M_beside N i j a * f_M_beside N i j a
      · rw [if_pos c2, if_pos c2, if_neg (by decide)]
        exact ih (t + 1) (by omega) (by omega) (by omega)
      · rw [if_neg c2, if_neg c2, if_pos rfl]
theorem e_sbn (h : RR S N) {a i : Int} (b w : Int) (hi : 0 ≤ i) (hi' : i < N 7 0) (hb : b = 0 ∨ b = 1) (z z' : Int → Int) (hz : ∀ u, 0 ≤ u → u ≤ 1001 → z u = z' u) (ha : zB 0 59 a) (hi9 : zB 0 59 i) : ∀ (k : Nat) (u j : Int), 0 ≤ j → 0 ≤ u → u ≤ 1001 → f_S_setBack_n S a b w i z k u j = f_M_setBack_n N a b w i z' k u j := by
  have hn := (jN_s0 h.2.1).2
  intro k
  induction k with
  | zero => intro u j _ _ _; rfl
  | succ k ih =>
    intro u j hj0 h0 h1
    rw [f_S_setBack_n_s, f_M_setBack_n_s, rr_n h, rr_3 h, e_need h 0 _ hi hi', rr_4 h]
    by_cases c : j < N 7 0
    · rw [if_pos c, if_pos c]
      by_cases c2 : f_M_needOf N i 0 (N 4 i) < N 3 j - N 3 i
      · rw [if_pos c2, if_pos (show N 3 i + f_M_needOf N i 0 (N 4 i) < N 3 j by omega)]
        exact hz u h0 h1
      · rw [if_neg c2, if_neg (show ¬ N 3 i + f_M_needOf N i 0 (N 4 i) < N 3 j by omega)]
        have hw := br_S_widened S u i j a b h.1 ⟨h0, h1⟩ hi9 ⟨hj0, by omega⟩ ha ⟨by omega, by omega⟩
        rw [ih (f_S_widened S u i j a b) (j + 1) (by omega) hw.1 hw.2]
        unfold f_S_widened
        rw [e_cross h]
        unfold f_S_sideOf
        generalize hx : f_M_beside N i j a = x
        rcases hb with rfl | rfl
        · rw [if_neg (show ¬ (0 : Int) = 1 by decide)]
          by_cases c3 : x < 0
          · rw [if_pos c3, if_neg (show ¬ x = 0 by omega), if_pos c3, if_pos rfl]
            exact (e_wid h w i u j a 0 (fun t => f_M_setBack_n N a 0 w i z' k t (j + 1)) (fun k9 t => f_M_setBack_x2 N a 0 w i u j (fun t => f_M_setBack_n N a 0 w i z' k t (j + 1)) k9 t) (fun _ => rfl) (fun k t => rfl) 1003 u h0 h1 (by omega)).symm
          · rw [if_neg c3, if_neg c3]
            show _ = f_M_setBack_n N a 0 w i z' k u (j + 1)
            by_cases c4 : x = 0
            · rw [if_pos c4]
            · rw [if_neg c4, if_neg (by decide)]
        · rw [if_pos (show (1 : Int) = 1 from rfl)]
          by_cases c3 : 0 < x
          · rw [if_pos c3, if_neg (show ¬ x = 0 by omega), if_neg (show ¬ x < 0 by omega), if_pos rfl]
            exact (e_wid h w i u j a 1 (fun t => f_M_setBack_n N a 1 w i z' k t (j + 1)) (fun k9 t => f_M_setBack_x4 N a 1 w i u j (fun t => f_M_setBack_n N a 1 w i z' k t (j + 1)) k9 t) (fun _ => rfl) (fun k t => rfl) 1003 u h0 h1 (by omega)).symm
          · rw [if_neg c3]
            show _ = f_M_setBack_n N a 1 w i z' k u (j + 1)
            by_cases c4 : x = 0
            · rw [if_pos c4]
            · rw [if_neg c4, if_pos (show x < 0 by omega), if_neg (by decide)]
    · rw [if_neg c, if_neg c]
      exact hz u h0 h1
theorem e_sbo (h : RR S N) {a : Int} (b : Int) (ha : 0 ≤ a) (ha' : a < N 7 0) (hb : b = 0 ∨ b = 1) (z : Int → Int) : ∀ (k : Nat) (w i : Int), 0 ≤ i → 0 ≤ w → w ≤ 1001 → f_S_setBack_o S a b z k w i = f_M_setBack_o N a b z k w i := by
  have hn := (jN_s0 h.2.1).2
  intro k
  induction k with
  | zero => intro w i _ _ _; rfl
  | succ k ih =>
    intro w i hi h0 h1
    rw [f_S_setBack_o_s, f_M_setBack_o_s]
    by_cases c : i < a
    · rw [if_pos c, if_pos c]
      exact e_sbn h b w hi (by omega) hb _ _ (fun u q1 q2 => ih u (i + 1) (by omega) q1 q2) ⟨ha, by omega⟩ ⟨hi, by omega⟩ 61 w (a + 1) (by omega) h0 h1
    · rw [if_neg c, if_neg c]
theorem E_setBack (hR : RR S N) (a b : Int) (_ : zB (-2147483648) 2147483647 a) (_ : zB (-2147483648) 2147483647 b) : f_S_setBack S a b = f_M_setBack N a b := by
  unfold f_S_setBack f_M_setBack
  rw [e_station hR, e_side]
  by_cases c : f_M_isStation N a = 0
  · rw [if_pos c, if_pos c]
  rw [if_neg c, if_neg c]
  by_cases c2 : f_M_within b 0 1 = 0
  · rw [if_pos c2, if_pos c2]
  rw [if_neg c2, if_neg c2]
  have hb := gf_M_within c2
  exact e_sbo hR b (g_st c).1 (g_st c).2 (by have := hb.1; have := hb.2; omega) _ 61 0 0 (by decide) (by decide) (by decide)
end P3
