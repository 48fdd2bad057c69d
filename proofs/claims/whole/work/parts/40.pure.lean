theorem E_station {S N : Nat → Int → Int} (hR : RR S N) (a b d : Int) (hb_a : zB (-2147483648) 2147483647 a) (hb_b : zB (-2147483648) 2147483647 b) (hb_d : zB (-2147483648) 2147483647 d) : (f_S_station S a b d).1 = (f_M_station N a b d).1 ∧ RR (f_S_station S a b d).2 (f_M_station N a b d).2 := by
  sorry
theorem E_heights {S N : Nat → Int → Int} (hR : RR S N) (a b : Int) (hb_a : zB (-2147483648) 2147483647 a) (hb_b : zB (-2147483648) 2147483647 b) : (f_S_heights S a b).1 = (f_M_heights N a b).1 ∧ RR (f_S_heights S a b).2 (f_M_heights N a b).2 := by
  sorry
theorem E_clear {S N : Nat → Int → Int} (hR : RR S N) (a b d : Int) (hb_a : zB (-2147483648) 2147483647 a) (hb_b : zB (-2147483648) 2147483647 b) (hb_d : zB (-2147483648) 2147483647 d) : (f_S_clear S a b d).1 = (f_M_clear N a b d).1 ∧ RR (f_S_clear S a b d).2 (f_M_clear N a b d).2 := by
  sorry
theorem E_box {S N : Nat → Int → Int} (hR : RR S N) (a b d v w : Int) (hb_a : zB (-2147483648) 2147483647 a) (hb_b : zB (-2147483648) 2147483647 b) (hb_d : zB (-2147483648) 2147483647 d) (hb_v : zB (-2147483648) 2147483647 v) (hb_w : zB (-2147483648) 2147483647 w) : (f_S_box S a b d v w).1 = (f_M_box N a b d v w).1 ∧ RR (f_S_box S a b d v w).2 (f_M_box N a b d v w).2 := by
  sorry
theorem E_speed {S N : Nat → Int → Int} (hR : RR S N) (a b : Int) (hb_a : zB (-2147483648) 2147483647 a) (hb_b : zB (-2147483648) 2147483647 b) : (f_S_speed S a b).1 = (f_M_speed N a b).1 ∧ RR (f_S_speed S a b).2 (f_M_speed N a b).2 := by
  sorry
theorem E_brake {S N : Nat → Int → Int} (hR : RR S N) (a b : Int) (hb_a : zB (-2147483648) 2147483647 a) (hb_b : zB (-2147483648) 2147483647 b) : (f_S_brake S a b).1 = (f_M_brake N a b).1 ∧ RR (f_S_brake S a b).2 (f_M_brake N a b).2 := by
  sorry
theorem E_way {S N : Nat → Int → Int} (hR : RR S N) (a : Int) (hb_a : zB (-2147483648) 2147483647 a) : f_S_way S a = f_M_way N a := by
  sorry
theorem E_view {S N : Nat → Int → Int} (hR : RR S N) (a b d : Int) (hb_a : zB (-2147483648) 2147483647 a) (hb_b : zB (-2147483648) 2147483647 b) (hb_d : zB (-2147483648) 2147483647 d) : f_S_view S a b d = f_M_view N a b d := by
  sorry
theorem E_sight {S N : Nat → Int → Int} (hR : RR S N) (a v : Int) (hb_a : zB (-2147483648) 2147483647 a) (hb_v : zB 0 1 v) : f_S_sight S a v = f_M_sight N a v := by
  sorry
theorem E_need {S N : Nat → Int → Int} (hR : RR S N) (a v : Int) (hb_a : zB (-2147483648) 2147483647 a) (hb_v : zB 0 1 v) : f_S_need S a v = f_M_need N a v := by
  sorry
theorem E_blind {S N : Nat → Int → Int} (hR : RR S N) (v a b : Int) (hb_v : zB 0 1 v) (hb_a : zB (-2147483648) 2147483647 a) (hb_b : zB (-2147483648) 2147483647 b) : f_S_blind S v a b = f_M_blind N v a b := by
  sorry
theorem E_setBack {S N : Nat → Int → Int} (hR : RR S N) (a b : Int) (hb_a : zB (-2147483648) 2147483647 a) (hb_b : zB (-2147483648) 2147483647 b) : f_S_setBack S a b = f_M_setBack N a b := by
  sorry
theorem E_allowed {S N : Nat → Int → Int} (hR : RR S N) (a v : Int) (hb_a : zB (-2147483648) 2147483647 a) (hb_v : zB 0 1 v) : f_S_allowed S a v = f_M_allowed N a v := by
  sorry
theorem E_overtake {S N : Nat → Int → Int} (hR : RR S N) (a : Int) (hb_a : zB (-2147483648) 2147483647 a) : f_S_overtake S a = f_M_overtake N a := by
  sorry
theorem E_seen {S N : Nat → Int → Int} (hR : RR S N) (a b d : Int) (hb_a : zB (-2147483648) 2147483647 a) (hb_b : zB (-2147483648) 2147483647 b) (hb_d : zB (-2147483648) 2147483647 d) : f_S_seen S a b d = f_M_seen N a b d := by
  sorry
theorem E_light {S N : Nat → Int → Int} (hR : RR S N) (a b d : Int) (hb_a : zB (-2147483648) 2147483647 a) (hb_b : zB (-2147483648) 2147483647 b) (hb_d : zB (-2147483648) 2147483647 d) : f_S_light S a b d = f_M_light N a b d := by
  sorry
theorem E_count {S N : Nat → Int → Int} (hR : RR S N) (a : Int) (hb_a : zB (-2147483648) 2147483647 a) : f_S_count S a = f_M_count N a := by
  sorry
theorem RR0 : RR S0 N0 := by
  sorry
