section P5
variable {S N : Nat → Int → Int}
def sm (f : Nat → Int) : Nat → Int
  | 0 => 0
  | n + 1 => sm f n + f n
theorem sm_add (f g : Nat → Int) : ∀ n, sm (fun i => f i + g i) n = sm f n + sm g n := by
  intro n
  induction n with
  | zero => rfl
  | succ n ih =>
    show sm (fun i => f i + g i) n + (f n + g n) = (sm f n + f n) + (sm g n + g n)
    rw [ih]
    omega
theorem sm_congr {f g : Nat → Int} : ∀ n, (∀ i, i < n → f i = g i) → sm f n = sm g n := by
  intro n
  induction n with
  | zero => intro _; rfl
  | succ n ih =>
    intro h
    show sm f n + f n = sm g n + g n
    rw [ih (fun i hi => h i (by omega)), h n (by omega)]
theorem sm_tri (c : Nat → Nat → Int) (m : Nat) : ∀ n, sm (fun i => sm (fun q => c i q) (m + 1) - sm (fun q => c i q) (i + 1)) n = sm (fun i => sm (fun q => c i q) m - sm (fun q => c i q) (i + 1)) n + sm (fun i => c i m) n := by
  intro n
  rw [← sm_add]
  refine sm_congr n (fun i _ => ?_)
  show (sm (fun q => c i q) m + c i m) - _ = _
  omega
theorem sm_swap (c : Nat → Nat → Int) : ∀ n, sm (fun i => sm (fun q => c i q) n - sm (fun q => c i q) (i + 1)) n = sm (fun i => sm (fun q => c q i) i) n := by
  intro n
  induction n with
  | zero => rfl
  | succ n ih =>
    show sm (fun i => sm (fun q => c i q) (n + 1) - sm (fun q => c i q) (i + 1)) n + (sm (fun q => c n q) (n + 1) - sm (fun q => c n q) (n + 1)) = sm (fun i => sm (fun q => c q i) i) n + sm (fun q => c q n) n
    rw [sm_tri, ih]
    omega
def zc2 (N : Nat → Int → Int) (i j : Nat) : Int := if f_M_interrupter N (i : Int) (j : Int) = 0 then 1 else 0
theorem e_fvn (h : RR S N) (w : Int) (i : Nat) (z : Int → Int) : ∀ (k : Nat) (u : Int) (j : Nat), i < j → (j : Int) ≤ N 7 0 → N 7 0 - (j : Int) < (k : Int) → f_S_freeViews_n S w (i : Int) z k u (j : Int) = z (u + (sm (fun q => zc2 N i q) (N 7 0).toNat - sm (fun q => zc2 N i q) j)) := by
  intro k
  induction k with
  | zero => intro u j _ _ hk; exact absurd hk (by omega)
  | succ k ih =>
    intro u j h1 h2 hk
    rw [f_S_freeViews_n_s, rr_n h]
    by_cases c : (j : Int) < N 7 0
    · rw [if_pos c]
      have e0 := e_inter0 h (show 0 ≤ (i : Int) by omega) (show (i : Int) < N 7 0 by omega) (show 0 ≤ (j : Int) by omega) c (by omega)
      have ih1 := ih (u + 1) (j + 1) (by omega) (by omega) (by omega)
      have ih2 := ih u (j + 1) (by omega) (by omega) (by omega)
      rw [show ((j + 1 : Nat) : Int) = (j : Int) + 1 by omega] at ih1 ih2
      have e : sm (fun q => zc2 N i q) (j + 1) = sm (fun q => zc2 N i q) j + zc2 N i j := rfl
      rw [e] at ih1 ih2
      unfold zc2 at *
      by_cases c2 : f_S_interruption S (i : Int) (j : Int) = 0
      · rw [if_pos c2, ih1, if_pos (e0.mp c2)]
        congr 1
        omega
      · rw [if_neg c2, ih2, if_neg (fun q => c2 (e0.mpr q))]
        congr 1
        omega
    · rw [if_neg c, show (N 7 0).toNat = j by omega]
      congr 1
      omega
theorem e_fvo (h : RR S N) : ∀ (k : Nat) (w : Int) (i : Nat), (i : Int) ≤ N 7 0 → N 7 0 - (i : Int) < (k : Int) → f_S_freeViews_o S (fun w => w) k w (i : Int) = w + (sm (fun i => sm (fun q => zc2 N i q) (N 7 0).toNat - sm (fun q => zc2 N i q) (i + 1)) (N 7 0).toNat - sm (fun i => sm (fun q => zc2 N i q) (N 7 0).toNat - sm (fun q => zc2 N i q) (i + 1)) i) := by
  have hn := (jN_s0 h.2.1).2
  intro k
  induction k with
  | zero => intro w i _ hk; exact absurd hk (by omega)
  | succ k ih =>
    intro w i h2 hk
    rw [f_S_freeViews_o_s, rr_n h]
    by_cases c : (i : Int) < N 7 0
    · rw [if_pos c, show (i : Int) + 1 = ((i + 1 : Nat) : Int) by omega, e_fvn h w i _ 61 w (i + 1) (by omega) (by omega) (by omega)]
      show f_S_freeViews_o S (fun w => w) k _ ((i + 1 : Nat) : Int) = _
      rw [ih _ (i + 1) (by omega) (by omega)]
      show _ + (_ - (sm (fun i => sm (fun q => zc2 N i q) (N 7 0).toNat - sm (fun q => zc2 N i q) (i + 1)) i + (sm (fun q => zc2 N i q) (N 7 0).toNat - sm (fun q => zc2 N i q) (i + 1)))) = _
      omega
    · rw [if_neg c, show (N 7 0).toNat = i by omega]
      show w = _
      omega
theorem e_mvn (h : RR S N) (a w : Int) (i : Nat) (z : Int → Int) : ∀ (k : Nat) (u : Int) (j : Nat), j ≤ i → (i : Int) - (j : Int) < (k : Int) → f_M_count_n N a w (i : Int) z k u (j : Int) = z (u + (sm (fun q => zc2 N q i) i - sm (fun q => zc2 N q i) j)) := by
  intro k
  induction k with
  | zero => intro u j _ hk; exact absurd hk (by omega)
  | succ k ih =>
    intro u j h1 hk
    rw [f_M_count_n_s]
    by_cases c : (j : Int) < (i : Int)
    · rw [if_pos c]
      have ih1 := ih (u + 1) (j + 1) (by omega) (by omega)
      have ih2 := ih u (j + 1) (by omega) (by omega)
      rw [show ((j + 1 : Nat) : Int) = (j : Int) + 1 by omega] at ih1 ih2
      have e : sm (fun q => zc2 N q i) (j + 1) = sm (fun q => zc2 N q i) j + zc2 N j i := rfl
      rw [e] at ih1 ih2
      unfold zc2 at *
      rw [Int.add_zero]
      by_cases c2 : f_M_interrupter N (j : Int) (i : Int) = 0
      · rw [if_pos c2, ih1, if_pos c2]
        congr 1
        omega
      · rw [if_neg c2, ih2, if_neg c2]
        congr 1
        omega
    · rw [if_neg c, show i = j by omega]
      congr 1
      omega
theorem e_mvo (h : RR S N) (a : Int) : ∀ (k : Nat) (w : Int) (i : Nat), (i : Int) ≤ N 7 0 → N 7 0 - (i : Int) < (k : Int) → f_M_count_o N a (fun w => w) k w (i : Int) = w + (sm (fun i => sm (fun q => zc2 N q i) i) (N 7 0).toNat - sm (fun i => sm (fun q => zc2 N q i) i) i) := by
  have hn := (jN_s0 h.2.1).2
  intro k
  induction k with
  | zero => intro w i _ hk; exact absurd hk (by omega)
  | succ k ih =>
    intro w i h2 hk
    rw [f_M_count_o_s]
    by_cases c : (i : Int) < N 7 0
    · have e9 := e_mvn h a w i (fun u => f_M_count_o N a (fun w => w) k u ((i : Int) + 1)) 61 w 0 (by omega) (by omega)
      rw [if_pos c]
      refine Eq.trans e9 ?_
      rw [show (i : Int) + 1 = ((i + 1 : Nat) : Int) by omega, ih _ (i + 1) (by omega) (by omega)]
      show _ + (_ - (sm (fun i => sm (fun q => zc2 N q i) i) i + sm (fun q => zc2 N q i) i)) = _
      show w + (sm (fun q => zc2 N q i) i - 0) + _ = _
      omega
    · rw [if_neg c, show (N 7 0).toNat = i by omega]
      show w = _
      omega
theorem E_count (hR : RR S N) (a : Int) (_ : zB (-2147483648) 2147483647 a) : f_S_count S a = f_M_count N a := by
  have hn := jN_s0 hR.2.1
  obtain ⟨hn0, hn1⟩ := id hn
  unfold f_S_count f_M_count
  by_cases c0 : a = 0
  · rw [if_pos c0, if_pos c0, rr_n hR]
  rw [if_neg c0, if_neg c0]
  by_cases c1 : a = 1
  · rw [if_pos c1, if_pos c1, rr_x hR]
  rw [if_neg c1, if_neg c1]
  by_cases c2 : a = 2
  · rw [if_pos c2, if_pos c2, rr_told hR]
    exact (e_ct a 121 0 0 (by omega) (by omega)).symm
  rw [if_neg c2, if_neg c2]
  by_cases c3 : a = 3
  · rw [if_pos c3, if_pos c3]
    have e1 := e_fvo hR 61 0 0 (by omega) (by omega)
    have e2 := e_mvo hR a 61 0 0 (by omega) (by omega)
    rw [sm_swap] at e1
    exact e1.trans e2.symm
  rw [if_neg c3, if_neg c3]
  by_cases c4 : a = 4
  · rw [if_pos c4, if_pos c4]
    exact e_bs hR a 0 (fun k w i => f_M_count_d N a (fun w => w) k w i) (fun _ _ => rfl) (fun _ _ _ => rfl) 61 0 0 (by decide)
  rw [if_neg c4, if_neg c4]
  by_cases c5 : a = 5
  · rw [if_pos c5, if_pos c5]
    exact e_bs hR a 1 (fun k w i => f_M_count_d2 N a (fun w => w) k w i) (fun _ _ => rfl) (fun _ _ _ => rfl) 61 0 0 (by decide)
  rw [if_neg c5, if_neg c5]
end P5
