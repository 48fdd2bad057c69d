section P8
variable {S N : Nat → Int → Int}
theorem E_box (hR : RR S N) (a b d v w : Int) (_ : zB (-2147483648) 2147483647 a) (_ : zB (-2147483648) 2147483647 b) (_ : zB (-2147483648) 2147483647 d) (_ : zB (-2147483648) 2147483647 v) (_ : zB (-2147483648) 2147483647 w) : (f_S_box S a b d v w).1 = (f_M_box N a b d v w).1 ∧ RR (f_S_box S a b d v w).2 (f_M_box N a b d v w).2 := by
  obtain ⟨hi, hj, r0, r1, r2, r3, r4, r5, rn, re, rt, rr, rb, rx, ro, rd, rw0, rv⟩ := id hR
  have hj2 := hj.2
  unfold f_S_box f_M_box
  rw [e_plane, e_plane, e_level]
  by_cases c1 : f_M_isPoint a b = 0
  · rw [if_pos c1, if_pos c1]; exact ⟨rfl, hR⟩
  rw [if_neg c1, if_neg c1]
  by_cases c2 : f_M_isPoint d v = 0
  · rw [if_pos c2, if_pos c2]; exact ⟨rfl, hR⟩
  rw [if_neg c2, if_neg c2]
  by_cases c3 : d < a
  · rw [if_pos c3, if_pos c3]; exact ⟨rfl, hR⟩
  rw [if_neg c3, if_neg c3]
  by_cases c4 : v < b
  · rw [if_pos c4, if_pos c4]; exact ⟨rfl, hR⟩
  rw [if_neg c4, if_neg c4]
  by_cases c5 : f_M_within w (-100000) 100000 = 0
  · rw [if_pos c5, if_pos c5]; exact ⟨rfl, hR⟩
  rw [if_neg c5, if_neg c5]
  have hx := jN_s1 hj
  obtain ⟨hx0, hx1⟩ := id hx
  unfold f_B_add
  by_cases c6 : N 7 1 = 8
  · rw [if_neg (show ¬ S 11 6 < 8 by omega), if_pos c6]; exact ⟨rfl, hR⟩
  rw [if_pos (show S 11 6 < 8 by omega), if_neg c6]
  obtain ⟨ga, gb⟩ := gf_M_isPoint c1
  obtain ⟨gd, gv⟩ := gf_M_isPoint c2
  have gw := gf_M_within c5
  have ga2 : zB (-100000) 100000 a := zB.w ga (by decide) (by decide)
  have gb2 : zB (-100000) 100000 b := zB.w gb (by decide) (by decide)
  have gd2 : zB (-100000) 100000 d := zB.w gd (by decide) (by decide)
  have gv2 : zB (-100000) 100000 v := zB.w gv (by decide) (by decide)
  have b1 := zu_b (i := 5 * N 7 1) (iN_a6 hj.1) ga2
  have b2 := zu_b (i := 5 * N 7 1 + 1) b1 gb2
  have b3 := zu_b (i := 5 * N 7 1 + 2) b2 gd2
  have b4 := zu_b (i := 5 * N 7 1 + 3) b3 gv2
  have b5 := zu_b (i := 5 * N 7 1 + 4) b4 gw
  rw [rx]
  have hs : zB 0 8 (N 7 1 + 1) := ⟨by omega, by omega⟩
  refine ⟨by show N 7 1 = N 7 1 + 1 - 1; omega, RR_mk (iS_v6 (iS_u10 (iS_u9 (iS_u8 (iS_u7 (iS_u6 hi (zu_b (iS_a6 hi) ga)) (zu_b (iS_a7 hi) gb)) (zu_b (iS_a8 hi) gd)) (zu_b (iS_a9 hi) gv)) (zu_b (iS_a10 hi) gw)) hs) ⟨iN_v1 (iN_u6 (iN_u6 (iN_u6 (iN_u6 (iN_u6 hj.1 b1) b2) b3) b4) b5) hs, hj2⟩ r0 r1 r2 r3 r4 r5 rn re rt rr rb rfl ?_ rd rw0 rv⟩
  intro j h0
  obtain ⟨o1, o2, o3, o4, o5⟩ := ro j h0
  refine ⟨?_, ?_, ?_, ?_, ?_⟩
  · show zu (S 6) (N 7 1) a j = zu (zu (zu (zu (zu (N 6) (5 * (N 7 1)) a) ((5 * (N 7 1)) + 1) b) ((5 * (N 7 1)) + 2) d) ((5 * (N 7 1)) + 3) v) ((5 * (N 7 1)) + 4) w (5 * j)
    unfold zu
    repeat' split
    all_goals omega
  · show zu (S 7) (N 7 1) b j = zu (zu (zu (zu (zu (N 6) (5 * (N 7 1)) a) ((5 * (N 7 1)) + 1) b) ((5 * (N 7 1)) + 2) d) ((5 * (N 7 1)) + 3) v) ((5 * (N 7 1)) + 4) w (5 * j + 1)
    unfold zu
    repeat' split
    all_goals omega
  · show zu (S 8) (N 7 1) d j = zu (zu (zu (zu (zu (N 6) (5 * (N 7 1)) a) ((5 * (N 7 1)) + 1) b) ((5 * (N 7 1)) + 2) d) ((5 * (N 7 1)) + 3) v) ((5 * (N 7 1)) + 4) w (5 * j + 2)
    unfold zu
    repeat' split
    all_goals omega
  · show zu (S 9) (N 7 1) v j = zu (zu (zu (zu (zu (N 6) (5 * (N 7 1)) a) ((5 * (N 7 1)) + 1) b) ((5 * (N 7 1)) + 2) d) ((5 * (N 7 1)) + 3) v) ((5 * (N 7 1)) + 4) w (5 * j + 3)
    unfold zu
    repeat' split
    all_goals omega
  · show zu (S 10) (N 7 1) w j = zu (zu (zu (zu (zu (N 6) (5 * (N 7 1)) a) ((5 * (N 7 1)) + 1) b) ((5 * (N 7 1)) + 2) d) ((5 * (N 7 1)) + 3) v) ((5 * (N 7 1)) + 4) w (5 * j + 4)
    unfold zu
    repeat' split
    all_goals omega
/-- the two states behind a new station, its way being W -/
def zSt (S : Nat → Int → Int) (n a b d W : Int) : Nat → Int → Int := zs (zs (zs (zs (zs (zs (zs (zs S 0 (zu (S 0) n a)) 1 (zu (S 1) n b)) 2 (zu (S 2) n d)) 4 (zu (S 4) n 50)) 5 (zu (S 5) ((2 * n) + 0) (-1))) 5 (zu (zu (S 5) ((2 * n) + 0) (-1)) ((2 * n) + 1) (-1))) 3 (zu (S 3) n W)) 11 (zu ((zs (zs (zs (zs (zs (zs (zs S 0 (zu (S 0) n a)) 1 (zu (S 1) n b)) 2 (zu (S 2) n d)) 4 (zu (S 4) n 50)) 5 (zu (S 5) ((2 * n) + 0) (-1))) 5 (zu (zu (S 5) ((2 * n) + 0) (-1)) ((2 * n) + 1) (-1))) 3 (zu (S 3) n W)) 11) 0 (n + 1))
def zNt (N : Nat → Int → Int) (n a b d : Int) (f : Int → Int) : Nat → Int → Int := zs (zs (zs (zs (zs (zs (zs (zs N 0 (zu (N 0) n a)) 1 (zu (N 1) n b)) 2 (zu (N 2) n d)) 4 (zu (N 4) n 50)) 5 (zu (N 5) (2 * n) (-1))) 5 (zu (zu (N 5) (2 * n) (-1)) ((2 * n) + 1) (-1))) 3 f) 7 (zu ((zs (zs (zs (zs (zs (zs (zs N 0 (zu (N 0) n a)) 1 (zu (N 1) n b)) 2 (zu (N 2) n d)) 4 (zu (N 4) n 50)) 5 (zu (N 5) (2 * n) (-1))) 5 (zu (zu (N 5) (2 * n) (-1)) ((2 * n) + 1) (-1))) 3 f) 7) 0 (n + 1))
theorem RR_st (hR : RR S N) (a b d W : Int) (ga : zB (-15000) 15000 a) (gb : zB (-15000) 15000 b) (gd : zB (-100000) 100000 d) (hn : N 7 0 < 60) (hW0 : 0 ≤ W) (hW : W ≤ 42427 * N 7 0) (hz : N 7 0 = 0 → W = 0) (hm : 0 < N 7 0 → N 3 (N 7 0 - 1) < W) : RR (zSt S (N 7 0) a b d W) (zNt N (N 7 0) a b d (zu (N 3) (N 7 0) W)) := by
  obtain ⟨hi, hj, r0, r1, r2, r3, r4, r5, rn, re, rt, rr, rb, rx, ro, rd, rw0, rv⟩ := id hR
  have hj1 := hj.1
  have hj2 := hj.2
  obtain ⟨hn0, hn1⟩ := id (jN_s0 hj)
  have g50 : zB 0 200 50 := ⟨by decide, by decide⟩
  have gm1 : zB (-1) 1000 (-1) := ⟨by decide, by decide⟩
  have gW : zB 0 2545620 W := ⟨hW0, by omega⟩
  have gn : zB 0 60 (N 7 0 + 1) := ⟨by omega, by omega⟩
  have c1 := zu_b (i := 2 * N 7 0 + 0) (iS_a5 hi) gm1
  have c2 := zu_b (i := 2 * N 7 0 + 1) c1 gm1
  have e1 := zu_b (i := 2 * N 7 0) (iN_a5 hj1) gm1
  have e2 := zu_b (i := 2 * N 7 0 + 1) e1 gm1
  have k0 : zu (S 0) (N 7 0) a = zu (N 0) (N 7 0) a := by rw [r0]
  have k1 : zu (S 1) (N 7 0) b = zu (N 1) (N 7 0) b := by rw [r1]
  have k2 : zu (S 2) (N 7 0) d = zu (N 2) (N 7 0) d := by rw [r2]
  have k3 : zu (S 3) (N 7 0) W = zu (N 3) (N 7 0) W := by rw [r3]
  have k4 : zu (S 4) (N 7 0) 50 = zu (N 4) (N 7 0) 50 := by rw [r4]
  have k5 : zu (zu (S 5) (2 * N 7 0 + 0) (-1)) (2 * N 7 0 + 1) (-1) = zu (zu (N 5) (2 * N 7 0) (-1)) (2 * N 7 0 + 1) (-1) := by rw [r5, Int.add_zero]
  have kd : S 11 1 = cntN (zu (zu (N 5) (2 * N 7 0) (-1)) (2 * N 7 0 + 1) (-1)) (2 * (N 7 0 + 1)).toNat := by
    rw [rd, show (2 * (N 7 0 + 1)).toNat = (2 * N 7 0).toNat + 1 + 1 by omega]
    show _ = cntN _ (2 * N 7 0).toNat + (if zu (zu (N 5) (2 * N 7 0) (-1)) (2 * N 7 0 + 1) (-1) ((2 * N 7 0).toNat : Int) < 0 then 0 else 1) + (if zu (zu (N 5) (2 * N 7 0) (-1)) (2 * N 7 0 + 1) (-1) (((2 * N 7 0).toNat + 1 : Nat) : Int) < 0 then 0 else 1)
    rw [show ((2 * N 7 0).toNat : Int) = 2 * N 7 0 by omega, show (((2 * N 7 0).toNat + 1 : Nat) : Int) = 2 * N 7 0 + 1 by omega, zu_s, zu_n (show ¬ 2 * N 7 0 = 2 * N 7 0 + 1 by omega), zu_s, if_pos (by decide), Int.add_zero, Int.add_zero]
    exact cnt_congr _ (fun j hj' => by rw [zu_n (show ¬ (j : Int) = 2 * N 7 0 + 1 by omega), zu_n (show ¬ (j : Int) = 2 * N 7 0 by omega)])
  have km : ∀ i j : Int, 0 ≤ i → j = i + 1 → j < N 7 0 + 1 → zu (N 3) (N 7 0) W i < zu (N 3) (N 7 0) W j := by
    intro i j h0 h1 h2
    by_cases q : j = N 7 0
    · rw [q, zu_s, zu_n (show ¬ i = N 7 0 by omega), show i = N 7 0 - 1 by omega]
      exact hm (by omega)
    · rw [zu_n q, zu_n (show ¬ i = N 7 0 by omega)]
      exact hj2 i j h0 h1 (by omega)
  have kw : zu (N 3) (N 7 0) W 0 = 0 := by
    by_cases q : (0 : Int) = N 7 0
    · unfold zu
      rw [if_pos q]
      exact hz q.symm
    · rw [zu_n q]
      exact rw0
  have kv : ∀ i : Int, 0 ≤ i → i < N 7 0 + 1 → zu (N 3) (N 7 0) W i ≤ 42427 * i := by
    intro i h0 h1
    by_cases q : i = N 7 0
    · rw [q, zu_s]
      exact hW
    · rw [zu_n q]
      exact rv i h0 (by omega)
  unfold zSt zNt
  exact RR_mk (iS_v0 (iS_u3 (iS_u5 (iS_u5 (iS_u4 (iS_u2 (iS_u1 (iS_u0 hi (zu_b (iS_a0 hi) ga)) (zu_b (iS_a1 hi) gb)) (zu_b (iS_a2 hi) gd)) (zu_b (iS_a4 hi) g50)) c1) c2) (zu_b (iS_a3 hi) gW)) gn) ⟨iN_v0 (iN_u3 (iN_u5 (iN_u5 (iN_u4 (iN_u2 (iN_u1 (iN_u0 hj1 (zu_b (iN_a0 hj1) ga)) (zu_b (iN_a1 hj1) gb)) (zu_b (iN_a2 hj1) gd)) (zu_b (iN_a4 hj1) g50)) e1) e2) (zu_b (iN_a3 hj1) gW)) gn, km⟩ k0 k1 k2 k3 k4 k5 rfl re rt rr rb rx ro kd kw kv
theorem zs_id (M : Nat → Int → Int) (k : Nat) (f : Int → Int) (h : f = M k) : zs M k f = M := by
  funext j
  unfold zs
  split
  · subst_vars; rfl
  · rfl
end P8
