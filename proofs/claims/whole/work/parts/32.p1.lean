section P1
variable {S N : Nat → Int → Int}
theorem rr_0 (h : RR S N) : S 0 = N 0 := h.2.2.1
theorem rr_1 (h : RR S N) : S 1 = N 1 := h.2.2.2.1
theorem rr_2 (h : RR S N) : S 2 = N 2 := h.2.2.2.2.1
theorem rr_3 (h : RR S N) : S 3 = N 3 := h.2.2.2.2.2.1
theorem rr_4 (h : RR S N) : S 4 = N 4 := h.2.2.2.2.2.2.1
theorem rr_5 (h : RR S N) : S 5 = N 5 := h.2.2.2.2.2.2.2.1
theorem rr_n (h : RR S N) : S 11 0 = N 7 0 := h.2.2.2.2.2.2.2.2.1
theorem rr_e (h : RR S N) : S 11 2 = N 7 2 := h.2.2.2.2.2.2.2.2.2.1
theorem rr_t (h : RR S N) : S 11 3 = N 7 3 := h.2.2.2.2.2.2.2.2.2.2.1
theorem rr_r (h : RR S N) : S 11 4 = N 7 4 := h.2.2.2.2.2.2.2.2.2.2.2.1
theorem rr_b (h : RR S N) : S 11 5 = N 7 5 := h.2.2.2.2.2.2.2.2.2.2.2.2.1
theorem rr_x (h : RR S N) : S 11 6 = N 7 1 := h.2.2.2.2.2.2.2.2.2.2.2.2.2.1
theorem rr_box (h : RR S N) (j : Int) (hj : 0 ≤ j) : S 6 j = N 6 (5 * j) ∧ S 7 j = N 6 (5 * j + 1) ∧ S 8 j = N 6 (5 * j + 2) ∧ S 9 j = N 6 (5 * j + 3) ∧ S 10 j = N 6 (5 * j + 4) := h.2.2.2.2.2.2.2.2.2.2.2.2.2.2.1 j hj
theorem rr_told (h : RR S N) : S 11 1 = cntN (N 5) (2 * N 7 0).toNat := h.2.2.2.2.2.2.2.2.2.2.2.2.2.2.2.1
theorem rr_w0 (h : RR S N) : N 3 0 = 0 := h.2.2.2.2.2.2.2.2.2.2.2.2.2.2.2.2.1
theorem rr_wb (h : RR S N) (i : Int) (h1 : 0 ≤ i) (h2 : i < N 7 0) : N 3 i ≤ 42427 * i := h.2.2.2.2.2.2.2.2.2.2.2.2.2.2.2.2.2 i h1 h2
theorem e_within (a b d : Int) : f_S_isWithin a b d = f_M_within a b d := rfl
theorem e_plane (a b : Int) : f_S_isInPlane a b = f_M_isPoint a b := rfl
theorem e_level (a : Int) : f_S_isLevel a = f_M_within a (-100000) 100000 := rfl
theorem e_side (a : Int) : f_S_isSide a = f_M_within a 0 1 := by
  unfold f_S_isSide f_M_within
  repeat' split
  all_goals omega
theorem e_station (h : RR S N) (a : Int) : f_S_isStation S a = f_M_isStation N a := by
  unfold f_S_isStation f_M_isStation
  rw [rr_n h]
theorem e_cross (h : RR S N) (a b d : Int) : f_S_crossAt S a b d = f_M_beside N a b d := by
  unfold f_S_crossAt f_M_beside
  rw [rr_0 h, rr_1 h]
theorem e_len (h : RR S N) (a b : Int) : f_S_squareBetween S a b = f_M_lengthSquare N a b := by
  unfold f_S_squareBetween f_M_lengthSquare f_S_squareOf f_M_square
  rw [rr_0 h, rr_1 h]
theorem e_uniq {r t v : Int} (h0 : 0 ≤ r) (h1 : r * r ≤ v) (h2 : v < (r + 1) * (r + 1)) (g0 : 0 ≤ t) (g1 : t * t ≤ v) (g2 : v < (t + 1) * (t + 1)) : r = t := by
  rcases Int.lt_trichotomy r t with q | q | q
  · have : (r + 1) * (r + 1) ≤ t * t := Int.mul_le_mul (by omega) (by omega) (by omega) g0
    omega
  · exact q
  · have : (t + 1) * (t + 1) ≤ r * r := Int.mul_le_mul (by omega) (by omega) (by omega) h0
    omega
theorem e_root (v : Int) (h : zB 0 1800000000 v) : f_S_rootOf v = f_M_root v := by
  have h1 := fr_S_root v h
  have h2 := fr_M_root v h
  exact e_uniq h1.1 h1.2.1 h1.2.2 h2.1 h2.2.1 h2.2.2
theorem e_mono1 (h : jN N) : ∀ (k : Nat) (i : Int), 0 ≤ i → i + (k : Int) + 1 < N 7 0 → N 3 i < N 3 (i + (k : Int) + 1) := by
  intro k
  induction k with
  | zero => intro i h0 h1; exact jN_m h i _ h0 (by omega) h1
  | succ k ih =>
    intro i h0 h1
    have a1 := ih i h0 (by omega)
    have a2 := jN_m h (i + (k : Int) + 1) (i + ((k + 1 : Nat) : Int) + 1) (by omega) (by omega) h1
    omega
theorem e_mono (h : jN N) {i j : Int} (h0 : 0 ≤ i) (h1 : i < j) (h2 : j < N 7 0) : N 3 i < N 3 j := by
  have := e_mono1 h (j - i - 1).toNat i h0 (by omega)
  rw [show i + ((j - i - 1).toNat : Int) + 1 = j by omega] at this
  exact this
theorem e_mono' (h : jN N) {i j : Int} (h0 : 0 ≤ i) (h1 : i ≤ j) (h2 : j < N 7 0) : N 3 i ≤ N 3 j := by
  rcases (show i = j ∨ i < j by omega) with rfl | q
  · exact Int.le_refl _
  · exact Int.le_of_lt (e_mono h h0 q h2)
theorem z_abp {a : Int} (h : 0 ≤ a) : zabs a = a := if_pos h
theorem z_abn {a : Int} (h : a ≤ 0) : zabs a = -a := by
  unfold zabs
  split <;> omega
theorem e_ground (h : RR S N) {a b d : Int} (ha : 0 ≤ a) (ha' : a < N 7 0) (hb : 0 ≤ b) (hb' : b < N 7 0) (hd : (a < d ∧ d < b) ∨ (b < d ∧ d < a)) : f_S_isGroundAbove S a b d = f_M_isAbove N a b d := by
  have hj := h.2.1
  unfold f_S_isGroundAbove f_M_isAbove
  rw [rr_3 h, rr_2 h, rr_e h, rr_t h]
  rcases hd with ⟨h1, h2⟩ | ⟨h1, h2⟩
  · have m1 := e_mono hj ha (Int.lt_trans h1 h2) hb'
    have m2 := e_mono hj ha h1 (by omega)
    rw [z_abp (show 0 ≤ N 3 b - N 3 a by omega), z_abp (show 0 ≤ N 3 d - N 3 a by omega), if_neg (show ¬ N 3 b - N 3 a < 0 by omega), Int.mul_comm (N 2 d)]
  · have m1 := e_mono hj hb (Int.lt_trans h1 h2) ha'
    have m2 := e_mono hj (show 0 ≤ d by omega) h2 ha'
    rw [z_abn (show N 3 b - N 3 a ≤ 0 by omega), z_abn (show N 3 d - N 3 a ≤ 0 by omega), if_pos (show N 3 b - N 3 a < 0 by omega), Int.mul_comm (N 2 d)]
theorem e_farther (x len w : Int) : (if f_S_isFarther x len w = 0 then (0 : Int) else 1) = if (f_M_square w * len) < f_M_square x then 1 else 0 := by
  unfold f_S_isFarther f_M_square
  by_cases c : w * w * len < x * x
  · rw [if_pos c]; rfl
  · rw [if_neg c]; rfl
theorem e_bankLH (h : RR S N) (a b d : Int) : f_S_isBankInWay S a b d = if 0 < (f_M_beside N a b d) then (if (N 5 ((2 * d) + 1)) < 0 then (0) else (if ((f_M_square (N 5 ((2 * d) + 1))) * (f_M_lengthSquare N a b)) < (f_M_square (f_M_beside N a b d)) then (1) else (0))) else (if (f_M_beside N a b d) = 0 then (0) else (if (N 5 ((2 * d) + 0)) < 0 then (0) else (if ((f_M_square (N 5 ((2 * d) + 0))) * (f_M_lengthSquare N a b)) < (f_M_square (f_M_beside N a b d)) then (1) else (0)))) := by
  unfold f_S_isBankInWay
  rw [e_cross h, e_len h, rr_5 h]
  generalize f_M_beside N a b d = x
  unfold f_S_sideOf
  rcases Int.lt_trichotomy x 0 with q | q | q
  · have hw := jN_a5 h.2.1 (2 * d + 0)
    rw [if_neg (show ¬ x = 0 by omega), if_pos q, if_neg (show ¬ 0 < x by omega), if_neg (show ¬ x = 0 by omega)]
    by_cases c : N 5 (2 * d + 0) = -1
    · rw [if_pos c, if_pos (by omega)]
    · rw [if_neg c, if_neg (show ¬ N 5 (2 * d + 0) < 0 by have := hw.1; omega)]
      exact e_farther _ _ _
  · rw [if_pos q, if_neg (show ¬ 0 < x by omega), if_pos q]
  · have hw := jN_a5 h.2.1 (2 * d + 1)
    rw [if_neg (show ¬ x = 0 by omega), if_neg (show ¬ x < 0 by omega), if_pos q]
    by_cases c : N 5 (2 * d + 1) = -1
    · rw [if_pos c, if_pos (by omega)]
    · rw [if_neg c, if_neg (show ¬ N 5 (2 * d + 1) < 0 by have := hw.1; omega)]
      exact e_farther _ _ _
theorem e_bank (h : RR S N) {a b : Int} (d : Int) (hab : ¬ a = b) : f_S_isBankInWay S (zmin a b) (zmax a b) d = f_M_isBanked N a b d := by
  rw [e_bankLH h]
  unfold f_M_isBanked
  by_cases c : a < b
  · rw [show zmin a b = a from if_neg (by omega), show zmax a b = b from if_pos c, if_pos c]
  · rw [show zmin a b = b from if_pos (by omega), show zmax a b = a from if_neg c, if_neg c]
theorem e_narrow (a b d v k0 k1 k2 k3 : Int) : f_B_narrow a (b - a) d v k0 k1 k2 k3 = f_M_cut a b d v k0 k1 k2 k3 := by
  unfold f_B_narrow f_M_cut
  by_cases c : b - a = 0
  · rw [if_pos c, if_pos c]
  · rw [if_neg c, if_neg c]
    by_cases c2 : 0 < b - a
    · rw [if_pos c2, if_pos c2, z_abp (show 0 ≤ b - a by omega)]
    · rw [if_neg c2, if_neg c2, z_abn (show b - a ≤ 0 by omega)]
theorem e_below (a b d v w : Int) : f_M_isBelow a b d v w = if (((b - a) * d) + (a * v)) < (w * b) then 1 else 0 := by
  unfold f_M_isBelow
  rw [Int.mul_comm b w]
theorem e_dips (t d x k0 k1 k2 k3 : Int) : (f_B_dipsBelow t d x k0 k1 k2 k3 = 0) ↔ (if f_M_isBelow k0 k1 d x t = 0 then (if f_M_isBelow k2 k3 d x t = 0 then (0 : Int) else 1) else 1) = 0 := by
  rw [e_below, e_below]
  unfold f_B_dipsBelow
  by_cases c1 : (k1 - k0) * d + k0 * x < t * k1
  · rw [if_pos c1, if_pos c1, if_neg (by decide)]
  · rw [if_neg c1, if_neg c1, if_pos rfl]
    by_cases c2 : (k3 - k2) * d + k2 * x < t * k3
    · rw [if_pos c2]; decide
    · rw [if_neg c2]; decide
theorem e_first (h : RR S N) (a b d v w x z : Int) (k : Nat) (i : Int) (hi : 0 ≤ i) : f_B_firstAcross_l S a b d v w x z (k + 1) i = if i < N 7 1 then (if f_M_isBoxed N i a b d v w x = 0 then f_B_firstAcross_l S a b d v w x z k (i + 1) else i) else z := by
  rw [f_B_firstAcross_l_s]
  obtain ⟨b1, b2, b3, b4, b5⟩ := rr_box h i hi
  rw [rr_x h, b1, b2, b3, b4, b5, e_narrow]
  unfold f_M_isBoxed
  generalize f_M_cut a v (N 6 (5 * i)) (N 6 (5 * i + 2)) 0 1 1 1 = r1
  rw [e_narrow]
  generalize f_M_cut b w (N 6 (5 * i + 1)) (N 6 (5 * i + 3)) r1.2.1 r1.2.2.1 r1.2.2.2.1 r1.2.2.2.2 = r2
  by_cases c : i < N 7 1
  · rw [if_pos c, if_pos c]
    by_cases c1 : r1.1 = 0
    · rw [if_pos c1, if_pos c1, if_pos rfl]
    · rw [if_neg c1, if_neg c1]
      by_cases c2 : r2.1 = 0
      · rw [if_pos c2, if_pos c2, if_pos rfl]
      · rw [if_neg c2, if_neg c2]
        have hd := e_dips (N 6 (5 * i + 4)) d x r2.2.1 r2.2.2.1 r2.2.2.2.1 r2.2.2.2.2
        by_cases c3 : f_B_dipsBelow (N 6 (5 * i + 4)) d x r2.2.1 r2.2.2.1 r2.2.2.2.1 r2.2.2.2.2 = 0
        · rw [if_pos c3, if_pos (hd.mp c3)]
        · rw [if_neg c3, if_neg (fun q => c3 (hd.mpr q))]
  · rw [if_neg c, if_neg c]
end P1
