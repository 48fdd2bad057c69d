section P6
variable {S N : Nat → Int → Int}
theorem e_bend (h : RR S N) (v a b q w : Int) (k : Nat) (i : Int) (hi : N 7 0 < i) : f_S_blind_l S v a b (-1) (k + 1) q w i = -1 := by
  rw [f_S_blind_l_s, rr_n h, if_pos hi]
theorem e_bl (h : RR S N) (v a b : Int) (hb : ¬ f_M_within b 0 1 = 0) : ∀ (m : Nat) (i q : Int) (kc km : Nat), 0 ≤ i → i ≤ N 7 0 → N 7 0 - i ≤ (m : Int) → 0 ≤ q → q ≤ a → N 7 0 + 1 - i < (kc : Int) → N 7 0 - i < (km : Int) → f_S_blind_l S v a b (-1) kc q (-1) i = f_M_blind_o N v a b (-1) km (a - q) i := by
  have hn := (jN_s0 h.2.1).2
  intro m
  induction m with
  | zero =>
    intro i q kc km h0 h1 h2 hq hqa hc hm
    obtain ⟨kc, rfl⟩ : ∃ z, kc = z + 1 + 1 := ⟨kc - 2, by omega⟩
    obtain ⟨km, rfl⟩ : ∃ z, km = z + 1 := ⟨km - 1, by omega⟩
    rw [f_S_blind_l_s, rr_n h, if_neg (show ¬ N 7 0 < i by omega), if_neg (show ¬ i < N 7 0 by omega), if_pos rfl, e_bend h _ _ _ _ _ _ _ (by omega), f_M_blind_o_s, if_neg (show ¬ i < N 7 0 by omega)]
  | succ m ih =>
    intro i q kc km h0 h1 h2 hq hqa hc hm
    obtain ⟨kc, rfl⟩ : ∃ z, kc = z + 1 + 1 := ⟨kc - 2, by omega⟩
    obtain ⟨km, rfl⟩ : ∃ z, km = z + 1 := ⟨km - 1, by omega⟩
    by_cases c : i < N 7 0
    · have inner : ∀ (d : Nat) (j : Int) (k2 kn : Nat), i ≤ j → j < N 7 0 → N 7 0 - 1 - j ≤ (d : Int) → N 7 0 - j < (k2 : Int) → N 7 0 - j ≤ (kn : Int) → f_S_blind_l S v a b (-1) k2 q i (j + 1) = f_M_blind_n N v a b (a - q) i (fun j => if a - q = 0 then (if b = 0 then (i) else (j)) else (f_M_blind_o N v a b (-1) km (a - q + (-1)) (j + 1))) kn j := by
        intro d
        induction d with
        | zero =>
          intro j k2 kn g0 g1 g2 g3 g4
          obtain ⟨k2, rfl⟩ : ∃ z, k2 = z + 1 + 1 := ⟨k2 - 2, by omega⟩
          obtain ⟨kn, rfl⟩ : ∃ z, kn = z + 1 := ⟨kn - 1, by omega⟩
          obtain ⟨km, rfl⟩ : ∃ z, km = z + 1 := ⟨km - 1, by omega⟩
          rw [f_S_blind_l_s, rr_n h, if_neg (show ¬ N 7 0 < j + 1 by omega), if_neg (show ¬ j + 1 < N 7 0 by omega), if_neg (show ¬ i = -1 by omega), f_M_blind_n_s, if_neg (show ¬ j + 1 < N 7 0 by omega), e_bend h _ _ _ _ _ _ _ (by omega), show j + 1 - 1 = j by omega]
          show _ = if a - q = 0 then (if b = 0 then i else j) else f_M_blind_o N v a b (-1) (km + 1) (a - q + (-1)) (j + 1)
          rw [f_M_blind_o_s, if_neg (show ¬ j + 1 < N 7 0 by omega)]
          by_cases e : q = a
          · rw [if_pos e, if_pos (show a - q = 0 by omega)]
          · rw [if_neg e, if_neg (show ¬ a - q = 0 by omega)]
        | succ d ihd =>
          intro j k2 kn g0 g1 g2 g3 g4
          obtain ⟨k2, rfl⟩ : ∃ z, k2 = z + 1 + 1 := ⟨k2 - 2, by omega⟩
          obtain ⟨kn, rfl⟩ : ∃ z, kn = z + 1 := ⟨kn - 1, by omega⟩
          obtain ⟨km, rfl⟩ : ∃ z, km = z + 1 := ⟨km - 1, by omega⟩
          by_cases c1 : j + 1 < N 7 0
          · rw [f_S_blind_l_s, rr_n h, if_neg (show ¬ N 7 0 < j + 1 by omega), if_pos c1, e_blind h v (by omega) c1, if_neg (show ¬ i = -1 by omega), if_neg (show ¬ i = -1 by omega), f_M_blind_n_s, if_pos c1]
            by_cases c2 : f_M_isBlind N (j + 1) v = 0
            · rw [if_pos c2, if_pos c2, show j + 1 - 1 = j by omega]
              show _ = if a - q = 0 then (if b = 0 then i else j) else f_M_blind_o N v a b (-1) (km + 1) (a - q + (-1)) (j + 1)
              by_cases e : q = a
              · rw [if_pos e, if_pos (show a - q = 0 by omega)]
              · rw [if_neg e, if_neg (show ¬ a - q = 0 by omega), f_M_blind_o_s, if_pos c1, if_neg (show ¬ a - q + (-1) < 0 by omega), if_neg hb, if_pos c2, show a - q + (-1) = a - (q + 1) by omega]
                exact ih (j + 1 + 1) (q + 1) (k2 + 1) km (by omega) (by omega) (by omega) (by omega) (by omega) (by omega) (by omega)
            · rw [if_neg c2, if_neg c2]
              exact ihd (j + 1) (k2 + 1) kn (by omega) (by omega) (by omega) (by omega) (by omega)
          · rw [f_S_blind_l_s, rr_n h, if_neg (show ¬ N 7 0 < j + 1 by omega), if_neg (show ¬ j + 1 < N 7 0 by omega), if_neg (show ¬ i = -1 by omega), f_M_blind_n_s, if_neg (show ¬ j + 1 < N 7 0 by omega), e_bend h _ _ _ _ _ _ _ (by omega), show j + 1 - 1 = j by omega]
            show _ = if a - q = 0 then (if b = 0 then i else j) else f_M_blind_o N v a b (-1) (km + 1) (a - q + (-1)) (j + 1)
            rw [f_M_blind_o_s, if_neg (show ¬ j + 1 < N 7 0 by omega)]
            by_cases e : q = a
            · rw [if_pos e, if_pos (show a - q = 0 by omega)]
            · rw [if_neg e, if_neg (show ¬ a - q = 0 by omega)]
      rw [f_S_blind_l_s, rr_n h, if_neg (show ¬ N 7 0 < i by omega), if_pos c, e_blind h v h0 c, if_pos rfl, if_pos rfl, f_M_blind_o_s, if_pos c, if_neg (show ¬ a - q < 0 by omega), if_neg hb]
      by_cases c2 : f_M_isBlind N i v = 0
      · rw [if_pos c2, if_pos c2]
        exact ih (i + 1) q (kc + 1) km (by omega) (by omega) (by omega) hq hqa (by omega) (by omega)
      · rw [if_neg c2, if_neg c2]
        exact inner (N 7 0).toNat i (kc + 1) 61 (by omega) c (by omega) (by omega) (by omega)
    · rw [f_S_blind_l_s, rr_n h, if_neg (show ¬ N 7 0 < i by omega), if_neg (show ¬ i < N 7 0 by omega), if_pos rfl, e_bend h _ _ _ _ _ _ _ (by omega), f_M_blind_o_s, if_neg (show ¬ i < N 7 0 by omega)]
theorem E_blind (hR : RR S N) (v a b : Int) (_ : zB 0 1 v) (_ : zB (-2147483648) 2147483647 a) (_ : zB (-2147483648) 2147483647 b) : f_S_blind S v a b = f_M_blind N v a b := by
  obtain ⟨hn0, hn1⟩ := id (jN_s0 hR.2.1)
  unfold f_S_blind f_M_blind
  rw [e_within]
  by_cases c : a < 0
  · rw [if_pos c, show (61 : Nat) = 60 + 1 from rfl, f_M_blind_o_s, if_pos c]
    split <;> rfl
  rw [if_neg c]
  by_cases c2 : f_M_within b 0 1 = 0
  · rw [if_pos c2, show (61 : Nat) = 60 + 1 from rfl, f_M_blind_o_s, if_pos c2, if_neg c]
    split <;> rfl
  rw [if_neg c2]
  have := e_bl hR v a b c2 60 0 0 62 61 (by decide) hn0 (by omega) (by decide) (by omega) (by omega) (by omega)
  rw [Int.sub_zero] at this
  exact this
end P6
