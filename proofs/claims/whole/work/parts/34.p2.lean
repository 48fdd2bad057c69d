section P2
variable {S N : Nat → Int → Int}
/-- the two words for what interrupts -/
def zK2 (c m : Int) : Prop := (c = 0 ∧ m = 0) ∨ ∃ k i : Int, 1 ≤ k ∧ k ≤ 3 ∧ 0 ≤ i ∧ i < 60 ∧ c = 64 * k + i ∧ m = 100 * k + i
theorem e_itb (z z' : Int) (hz : zK2 z z') (lo hi : Int) (hlo : 0 ≤ lo) (hhi : hi ≤ 60) (f g : Int → Int) (F G : Nat → Int → Int) (c x m : Int) (hc : 1 ≤ c ∧ c ≤ 3) (h0 : x = 64 * c) (h1 : m = 100 * c) (hF0 : ∀ i, F 0 i = 0) (hG0 : ∀ i, G 0 i = 0) (hfg : ∀ i, lo < i → i < hi → f i = g i)
    (hF : ∀ k i, F (k + 1) i = if i < hi then (if f i = 0 then F k (i + 1) else (x + i)) else z) (hG : ∀ k i, G (k + 1) i = if i < hi then (if g i = 0 then G k (i + 1) else (m + i)) else z') : ∀ (k : Nat) (i : Int), lo < i → zK2 (F k i) (G k i) := by
  intro k
  induction k with
  | zero => intro i _; exact Or.inl ⟨hF0 i, hG0 i⟩
  | succ k ih =>
    intro i hi0
    rw [hF k i, hG k i]
    by_cases c1 : i < hi
    · rw [if_pos c1, if_pos c1, hfg i hi0 c1]
      by_cases c2 : g i = 0
      · rw [if_pos c2, if_pos c2]
        exact ih (i + 1) (by omega)
      · rw [if_neg c2, if_neg c2]
        exact Or.inr ⟨c, i, hc.1, hc.2, by omega, by omega, by omega, by omega⟩
    · rw [if_neg c1, if_neg c1]
      exact hz
theorem e_firstx (h : RR S N) (a b : Int) (G : Nat → Int → Int) (hG : ∀ k i, G (k + 1) i = if i < (N 7 1) then (if (f_M_isBoxed N i (N 0 a) (N 1 a) ((N 2 a) + (N 7 2)) (N 0 b) (N 1 b) ((N 2 b) + (N 7 3))) = 0 then (G k (i + 1)) else (300 + i)) else 0) :
    ∀ (k : Nat) (i : Int), 0 ≤ i → i ≤ 8 → 8 - i < (k : Int) → zK2 (if (f_B_firstAcross_l S (S 0 a) (S 1 a) ((S 2 a) + (S 11 2)) (S 0 b) (S 1 b) ((S 2 b) + (S 11 3)) (-1) k i) = (-1) then (0) else (192 + (f_B_firstAcross_l S (S 0 a) (S 1 a) ((S 2 a) + (S 11 2)) (S 0 b) (S 1 b) ((S 2 b) + (S 11 3)) (-1) k i))) (G k i) := by
  have hx := (jN_s1 h.2.1).2
  intro k
  induction k with
  | zero => intro i _ _ hk; exact absurd hk (by omega)
  | succ k ih =>
    intro i h0 h8 hk
    rw [hG k i, e_first h _ _ _ _ _ _ _ k i h0]
    have e1 : S 0 = N 0 := rr_0 h
    have e2 : S 1 = N 1 := rr_1 h
    have e3 : S 2 = N 2 := rr_2 h
    have e4 := rr_e h
    have e5 := rr_t h
    by_cases c1 : i < N 7 1
    · rw [if_pos c1, if_pos c1]
      by_cases c2 : f_M_isBoxed N i (N 0 a) (N 1 a) ((N 2 a) + (N 7 2)) (N 0 b) (N 1 b) ((N 2 b) + (N 7 3)) = 0
      · rw [if_pos c2, e1, e2, e3, e4, e5, if_pos c2, ← e1, ← e2, ← e3, ← e4, ← e5]
        exact ih (i + 1) (by omega) (by omega) (by omega)
      · rw [if_neg c2, e1, e2, e3, e4, e5, if_neg c2, if_neg (show ¬ i = -1 by omega)]
        exact Or.inr ⟨3, i, by decide, by decide, h0, by omega, by omega, by omega⟩
    · rw [if_neg c1, if_neg c1, if_pos rfl]
      exact Or.inl ⟨rfl, rfl⟩
theorem e_inter (h : RR S N) {a b : Int} (ha : 0 ≤ a) (ha' : a < N 7 0) (hb : 0 ≤ b) (hb' : b < N 7 0) (hab : ¬ a = b) : zK2 (f_S_interruption S a b) (f_M_interrupter N a b) := by
  have hn := (jN_s0 h.2.1).2
  unfold f_S_interruption f_M_interrupter
  by_cases c : a < b
  · have ez : zmax a b = b := if_pos c
    have kb : ∀ z z', zK2 z z' → zK2 (f_S_interruption_b S a b z 61 (a + 1)) (f_M_interrupter_b2 N a b z' 61 (a + 1)) := fun z z' hz => e_itb z z' hz a b ha (by omega) (fun i => f_S_isBankInWay S (zmin a b) (zmax a b) i) (fun i => f_M_isBanked N a b i) (fun k i => f_S_interruption_b S a b z k i) (fun k i => f_M_interrupter_b2 N a b z' k i) 2 128 200 (by decide) (by decide) (by decide) (fun _ => rfl) (fun _ => rfl) (fun i _ _ => e_bank h i hab) (fun k i => by
      show f_S_interruption_b S a b z (k + 1) i = if i < b then _ else _
      rw [f_S_interruption_b_s]
      by_cases q : i < b
      · rw [if_pos (show i < zmax a b by omega), if_pos q]
      · rw [if_neg (show ¬ i < zmax a b by omega), if_neg q]) (fun k i => rfl) 61 (a + 1) (by omega)
    have kg : ∀ z z', zK2 z z' → zK2 (f_S_interruption_g S a b z 61 (a + 1)) (f_M_interrupter_g2 N a b z' 61 (a + 1)) := fun z z' hz => e_itb z z' hz a b ha (by omega) (fun i => f_S_isGroundAbove S a b i) (fun i => f_M_isAbove N a b i) (fun k i => f_S_interruption_g S a b z k i) (fun k i => f_M_interrupter_g2 N a b z' k i) 1 64 100 (by decide) (by decide) (by decide) (fun _ => rfl) (fun _ => rfl) (fun i q1 q2 => e_ground h ha ha' hb hb' (Or.inl ⟨q1, q2⟩)) (fun k i => by
      show f_S_interruption_g S a b z (k + 1) i = if i < b then _ else _
      rw [f_S_interruption_g_s]
      by_cases q : i < b
      · rw [if_pos (show i < zmax a b by omega), if_pos q]
      · rw [if_neg (show ¬ i < zmax a b by omega), if_neg q]) (fun k i => rfl) 61 (a + 1) (by omega)
    rw [show zmin a b = a from if_neg (by omega), if_pos c]
    exact kg _ _ (kb _ _ (e_firstx h a b (fun k i => f_M_interrupter_x2 N a b 0 k i) (fun k i => rfl) 9 0 (by decide) (by decide) (by decide)))
  · have ez : zmax a b = a := if_neg c
    have kb : ∀ z z', zK2 z z' → zK2 (f_S_interruption_b S a b z 61 (b + 1)) (f_M_interrupter_b N a b z' 61 (b + 1)) := fun z z' hz => e_itb z z' hz b a hb (by omega) (fun i => f_S_isBankInWay S (zmin a b) (zmax a b) i) (fun i => f_M_isBanked N a b i) (fun k i => f_S_interruption_b S a b z k i) (fun k i => f_M_interrupter_b N a b z' k i) 2 128 200 (by decide) (by decide) (by decide) (fun _ => rfl) (fun _ => rfl) (fun i _ _ => e_bank h i hab) (fun k i => by
      show f_S_interruption_b S a b z (k + 1) i = if i < a then _ else _
      rw [f_S_interruption_b_s]
      by_cases q : i < a
      · rw [if_pos (show i < zmax a b by omega), if_pos q]
      · rw [if_neg (show ¬ i < zmax a b by omega), if_neg q]) (fun k i => rfl) 61 (b + 1) (by omega)
    have kg : ∀ z z', zK2 z z' → zK2 (f_S_interruption_g S a b z 61 (b + 1)) (f_M_interrupter_g N a b z' 61 (b + 1)) := fun z z' hz => e_itb z z' hz b a hb (by omega) (fun i => f_S_isGroundAbove S a b i) (fun i => f_M_isAbove N a b i) (fun k i => f_S_interruption_g S a b z k i) (fun k i => f_M_interrupter_g N a b z' k i) 1 64 100 (by decide) (by decide) (by decide) (fun _ => rfl) (fun _ => rfl) (fun i q1 q2 => e_ground h ha ha' hb hb' (Or.inr ⟨q1, q2⟩)) (fun k i => by
      show f_S_interruption_g S a b z (k + 1) i = if i < a then _ else _
      rw [f_S_interruption_g_s]
      by_cases q : i < a
      · rw [if_pos (show i < zmax a b by omega), if_pos q]
      · rw [if_neg (show ¬ i < zmax a b by omega), if_neg q]) (fun k i => rfl) 61 (b + 1) (by omega)
    rw [show zmin a b = b from if_pos (by omega), if_neg c]
    exact kg _ _ (kb _ _ (e_firstx h a b (fun k i => f_M_interrupter_x N a b 0 k i) (fun k i => rfl) 9 0 (by decide) (by decide) (by decide)))
theorem zK2_0 {c m : Int} (h : zK2 c m) : c = 0 ↔ m = 0 := by
  rcases h with ⟨h1, h2⟩ | ⟨k, i, h1, h2, h3, h4, h5, h6⟩ <;> omega
theorem e_inter0 (h : RR S N) {a b : Int} (ha : 0 ≤ a) (ha' : a < N 7 0) (hb : 0 ≤ b) (hb' : b < N 7 0) (hab : ¬ a = b) : f_S_interruption S a b = 0 ↔ f_M_interrupter N a b = 0 := zK2_0 (e_inter h ha ha' hb hb' hab)
theorem zK2_d {c m : Int} (h : zK2 c m) : Int.tdiv c 64 = Int.tdiv m 100 := by
  rcases h with ⟨h1, h2⟩ | ⟨k, i, h1, h2, h3, h4, h5, h6⟩
  · rw [h1, h2]; rfl
  · rw [Int.tdiv_eq_ediv_of_nonneg (by omega), Int.tdiv_eq_ediv_of_nonneg (by omega)]
    omega
theorem zK2_m {c m : Int} (h : zK2 c m) : Int.tmod c 64 = Int.tmod m 100 := by
  rcases h with ⟨h1, h2⟩ | ⟨k, i, h1, h2, h3, h4, h5, h6⟩
  · rw [h1, h2]; rfl
  · rw [Int.tmod_eq_emod_of_nonneg (by omega), Int.tmod_eq_emod_of_nonneg (by omega)]
    omega
theorem g_st {a : Int} (h : ¬ f_M_isStation N a = 0) : 0 ≤ a ∧ a < N 7 0 := by
  unfold f_M_isStation at h
  by_cases h1 : a < 0
  · rw [if_pos h1] at h; exact absurd rfl h
  · rw [if_neg h1] at h
    by_cases h2 : a < N 7 0
    · exact ⟨by omega, h2⟩
    · rw [if_neg h2] at h; exact absurd rfl h
theorem g_st0 {a : Int} (h : 0 ≤ a ∧ a < N 7 0) : ¬ f_M_isStation N a = 0 := by
  unfold f_M_isStation
  rw [if_neg (by omega), if_pos h.2]
  decide
theorem E_view (hR : RR S N) (a b d : Int) (_ : zB (-2147483648) 2147483647 a) (_ : zB (-2147483648) 2147483647 b) (_ : zB (-2147483648) 2147483647 d) : f_S_view S a b d = f_M_view N a b d := by
  unfold f_S_view f_M_view
  rw [e_station hR, e_station hR, e_within]
  by_cases c1 : f_M_isStation N a = 0
  · rw [if_pos c1, if_pos c1]
  rw [if_neg c1, if_neg c1]
  by_cases c2 : f_M_isStation N b = 0
  · rw [if_pos c2, if_pos c2]
  rw [if_neg c2, if_neg c2]
  by_cases c3 : a = b
  · rw [if_pos c3, if_pos c3]
  rw [if_neg c3, if_neg c3]
  by_cases c4 : f_M_within d 0 1 = 0
  · rw [if_pos c4, if_pos c4]
  rw [if_neg c4, if_neg c4]
  have k := e_inter hR (g_st c1).1 (g_st c1).2 (g_st c2).1 (g_st c2).2 c3
  by_cases c5 : d = 0
  · rw [if_pos c5, if_pos c5, zK2_d k]
  rw [if_neg c5, if_neg c5]
  by_cases c6 : f_S_interruption S a b = 0
  · rw [if_pos c6, if_pos ((zK2_0 k).mp c6)]
  · rw [if_neg c6, if_neg (fun q => c6 ((zK2_0 k).mpr q)), zK2_m k]
theorem E_way (hR : RR S N) (a : Int) (_ : zB (-2147483648) 2147483647 a) : f_S_way S a = f_M_way N a := by
  unfold f_S_way f_M_way
  rw [e_station hR, rr_3 hR]
theorem e_sf (h : RR S N) {a : Int} (v : Int) (ha : 0 ≤ a) (ha' : a < N 7 0) (z z' : Int → Int) (hz : ∀ w, a ≤ w → w < N 7 0 → z w = z' w) : ∀ (k : Nat) (w : Int), a ≤ w → w < N 7 0 → f_S_sightFrom_l S a v z k w (w + 1) = f_M_sightOf_l N a v z' k w := by
  intro k
  induction k with
  | zero => intro w _ _; rfl
  | succ k ih =>
    intro w h1 h2
    rw [f_S_sightFrom_l_s, f_M_sightOf_l_s, if_neg (show ¬ w + 1 < 0 by omega), rr_n h]
    by_cases c : w + 1 < N 7 0
    · rw [if_pos c, if_neg (g_st0 ⟨by omega, c⟩)]
      have e0 := e_inter0 h ha ha' (show 0 ≤ w + 1 by omega) c (by omega)
      by_cases c2 : f_S_interruption S a (w + 1) = 0
      · rw [if_pos c2, if_pos (e0.mp c2)]
        exact ih (w + 1) (by omega) c
      · rw [if_neg c2, if_neg (fun q => c2 (e0.mpr q))]
        exact hz w h1 h2
    · rw [if_neg c, if_pos (show f_M_isStation N (w + 1) = 0 by unfold f_M_isStation; rw [if_neg (by omega), if_neg c])]
      exact hz w h1 h2
theorem e_sb (h : RR S N) {a : Int} (v : Int) (ha : 0 ≤ a) (ha' : a < N 7 0) (z z' : Int → Int) (hz : ∀ w, 0 ≤ w → w ≤ a → z w = z' w) : ∀ (k : Nat) (w : Int), 0 ≤ w → w ≤ a → f_S_sightFrom_l2 S a v z k w (w + (-1)) = f_M_sightOf_l2 N a v z' k w := by
  intro k
  induction k with
  | zero => intro w _ _; rfl
  | succ k ih =>
    intro w h1 h2
    rw [f_S_sightFrom_l2_s, f_M_sightOf_l2_s, rr_n h]
    by_cases c : w + (-1) < 0
    · rw [if_pos c, if_pos (show f_M_isStation N (w + (-1)) = 0 by unfold f_M_isStation; rw [if_pos c])]
      exact hz w h1 h2
    · rw [if_neg c, if_pos (show w + (-1) < N 7 0 by omega), if_neg (g_st0 ⟨by omega, by omega⟩)]
      have e0 := e_inter0 h ha ha' (show 0 ≤ w + (-1) by omega) (by omega) (by omega)
      by_cases c2 : f_S_interruption S a (w + (-1)) = 0
      · rw [if_pos c2, if_pos (e0.mp c2)]
        exact ih (w + (-1)) (by omega) (by omega)
      · rw [if_neg c2, if_neg (fun q => c2 (e0.mpr q))]
        exact hz w h1 h2
theorem e_sight (h : RR S N) {a : Int} (v : Int) (ha : 0 ≤ a) (ha' : a < N 7 0) : f_S_sightFrom S a v = f_M_sightOf N a v := by
  have hj := h.2.1
  unfold f_S_sightFrom f_M_sightOf
  by_cases c : v = 0
  · rw [if_pos c, if_pos c]
    refine e_sf h v ha ha' _ _ (fun w h1 h2 => ?_) 61 a (by omega) ha'
    have := e_mono' hj ha h1 h2
    show zabs (S 3 w - S 3 a) = N 3 w - N 3 a
    rw [rr_3 h, z_abp (by omega)]
  · rw [if_neg c, if_neg c]
    refine e_sb h v ha ha' _ _ (fun w h1 h2 => ?_) 61 a ha (by omega)
    have := e_mono' hj h1 h2 ha'
    show zabs (S 3 w - S 3 a) = N 3 a - N 3 w
    rw [rr_3 h, z_abn (by omega)]
    omega
theorem E_sight (hR : RR S N) (a v : Int) (_ : zB (-2147483648) 2147483647 a) (_ : zB 0 1 v) : f_S_sight S a v = f_M_sight N a v := by
  unfold f_S_sight f_M_sight
  rw [e_station hR]
  by_cases c : f_M_isStation N a = 0
  · rw [if_pos c, if_pos c]
  · rw [if_neg c, if_neg c, e_sight hR v (g_st c).1 (g_st c).2]
end P2
