section P4
variable {S N : Nat → Int → Int}
theorem e_seenF (h : RR S N) (a b d t i : Int) (z : Int → Int) : ∀ (k : Nat) (j : Int), 0 ≤ j → j ≤ 8 → 8 - j < (k : Int) → f_M_seen_n2 N a b d t i z k 1 j = if f_B_firstAcross_l S (S 0 i) (S 1 i) ((S 2 i) + (S 11 2)) a b d (-1) k j = -1 then z 1 else z 0 := by
  have hx := (jN_s1 h.2.1).2
  intro k
  induction k with
  | zero => intro j _ _ hk; exact absurd hk (by omega)
  | succ k ih =>
    intro j h0 h8 hk
    rw [f_M_seen_n2_s, e_first h _ _ _ _ _ _ _ k j h0]
    have e1 : S 0 = N 0 := rr_0 h
    have e2 : S 1 = N 1 := rr_1 h
    have e3 : S 2 = N 2 := rr_2 h
    have e4 := rr_e h
    by_cases c1 : j < N 7 1
    · rw [if_pos c1, if_pos c1, if_neg (show ¬ (1 : Int) = 0 by decide)]
      by_cases c2 : f_M_isBoxed N j (N 0 i) (N 1 i) ((N 2 i) + (N 7 2)) a b d = 0
      · rw [if_pos c2, e1, e2, e3, e4, if_pos c2, ← e1, ← e2, ← e3, ← e4]
        exact ih (j + 1) (by omega) (by omega) (by omega)
      · rw [if_neg c2, e1, e2, e3, e4, if_neg c2, if_neg (show ¬ j = -1 by omega)]
        obtain ⟨k, rfl⟩ : ∃ q, k = q + 1 := ⟨k - 1, by omega⟩
        rw [f_M_seen_n2_s, if_pos (show (0 : Int) = 0 from rfl)]
        split <;> rfl
    · rw [if_neg c1, if_neg c1, if_pos rfl]
theorem e_seen0 (a b d t i : Int) (z : Int → Int) (k : Nat) (j : Int) : f_M_seen_n N a b d t i z (k + 1) 0 j = z 0 := by
  rw [f_M_seen_n_s, if_pos (show (0 : Int) = 0 from rfl)]
  split <;> rfl
theorem e_seen (h : RR S N) (a b d : Int) : ∀ (k : Nat) (t i : Int), f_S_seen_l S a b d (fun t => t) k t i = f_M_seen_o N a b d (fun t => t) k t i := by
  intro k
  induction k with
  | zero => intro t i; rfl
  | succ k ih =>
    intro t i
    rw [f_S_seen_l_s, f_M_seen_o_s, e_seen0, e_seenF h _ _ _ _ _ _ 9 0 (by decide) (by decide) (by decide), rr_n h]
    by_cases c : i < N 7 0
    · rw [if_pos c, if_pos c]
      unfold f_S_squareOf f_M_square
      rw [← rr_0 h, ← rr_1 h]
      by_cases c2 : 9000000 < (a - S 0 i) * (a - S 0 i) + (b - S 1 i) * (b - S 1 i)
      · rw [if_pos c2, if_pos c2]
        show _ = if (0 : Int) = 0 then _ else _
        rw [if_pos rfl, ih, Int.add_zero]
      · rw [if_neg c2, if_neg c2]
        show (if f_B_firstAcross_l S (S 0 i) (S 1 i) ((S 2 i) + (S 11 2)) a b d (-1) 9 0 = -1 then _ else _) = if f_B_firstAcross_l S (S 0 i) (S 1 i) ((S 2 i) + (S 11 2)) a b d (-1) 9 0 = -1 then (if (1 : Int) = 0 then _ else _) else (if (0 : Int) = 0 then _ else _)
        rw [if_neg (show ¬ (1 : Int) = 0 by decide), if_pos (show (0 : Int) = 0 from rfl), ih, ih, Int.add_zero]
    · rw [if_neg c, if_neg c]
theorem E_seen (hR : RR S N) (a b d : Int) (_ : zB (-2147483648) 2147483647 a) (_ : zB (-2147483648) 2147483647 b) (_ : zB (-2147483648) 2147483647 d) : f_S_seen S a b d = f_M_seen N a b d := by
  unfold f_S_seen f_M_seen
  rw [e_plane, e_level, e_seen hR]
theorem e_bs (h : RR S N) (a v : Int) (F : Nat → Int → Int → Int) (hF0 : ∀ w i, F 0 w i = 0) (hF : ∀ k w i, F (k + 1) w i = if i < (N 7 0) then (if (f_M_isBlind N i v) = 0 then (F k (w + 0) (i + 1)) else (F k (w + 1) (i + 1))) else w) : ∀ (k : Nat) (w i : Int), 0 ≤ i → f_S_blindStations_l S v (fun w => w) k w i = F k w i := by
  intro k
  induction k with
  | zero => intro w i _; exact (hF0 w i).symm
  | succ k ih =>
    intro w i h0
    rw [f_S_blindStations_l_s, hF, rr_n h]
    by_cases c : i < N 7 0
    · rw [if_pos c, if_pos c, e_blind h v h0 c, ih _ _ (by omega), ih _ _ (by omega), Int.add_zero]
    · rw [if_neg c, if_neg c]
theorem e_ct (a : Int) : ∀ (k : Nat) (w : Int) (i : Nat), (i : Int) ≤ 2 * N 7 0 → 2 * N 7 0 - (i : Int) < (k : Int) → f_M_count_t N a (fun w => w) k (cntN (N 5) i) (i : Int) = cntN (N 5) (2 * N 7 0).toNat := by
  intro k
  induction k with
  | zero => intro w i h1 h2; exact absurd h2 (by omega)
  | succ k ih =>
    intro w i h1 h2
    rw [f_M_count_t_s]
    by_cases c : (i : Int) < 2 * N 7 0
    · rw [if_pos c]
      have ih' := ih w (i + 1) (by omega) (by omega)
      rw [show ((i + 1 : Nat) : Int) = (i : Int) + 1 by omega] at ih'
      have e : cntN (N 5) (i + 1) = cntN (N 5) i + (if N 5 (i : Int) < 0 then 0 else 1) := rfl
      rw [e] at ih'
      by_cases c2 : N 5 (i : Int) < 0
      · rw [if_pos c2] at ih' ⊢
        exact ih'
      · rw [if_neg c2] at ih' ⊢
        exact ih'
    · rw [if_neg c]
      show cntN (N 5) i = _
      rw [show (2 * N 7 0).toNat = i by omega]
end P4
