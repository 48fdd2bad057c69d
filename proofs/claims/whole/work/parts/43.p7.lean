section P7
variable {S N : Nat → Int → Int}
theorem RR_mk (h1 : iS S) (h2 : jN N) (q0 : S 0 = N 0) (q1 : S 1 = N 1) (q2 : S 2 = N 2) (q3 : S 3 = N 3) (q4 : S 4 = N 4) (q5 : S 5 = N 5) (qn : S 11 0 = N 7 0) (qe : S 11 2 = N 7 2) (qt : S 11 3 = N 7 3) (qr : S 11 4 = N 7 4) (qb : S 11 5 = N 7 5) (qx : S 11 6 = N 7 1)
    (qo : ∀ j : Int, 0 ≤ j → S 6 j = N 6 (5 * j) ∧ S 7 j = N 6 (5 * j + 1) ∧ S 8 j = N 6 (5 * j + 2) ∧ S 9 j = N 6 (5 * j + 3) ∧ S 10 j = N 6 (5 * j + 4)) (qd : S 11 1 = cntN (N 5) (2 * N 7 0).toNat) (qw : N 3 0 = 0) (qv : ∀ i : Int, 0 ≤ i → i < N 7 0 → N 3 i ≤ 42427 * i) : RR S N :=
  ⟨h1, h2, q0, q1, q2, q3, q4, q5, qn, qe, qt, qr, qb, qx, qo, qd, qw, qv⟩
theorem RR0 : RR S0 N0 := by
  refine RR_mk ?_ ⟨?_, ?_⟩ rfl rfl rfl rfl rfl rfl rfl rfl rfl rfl rfl rfl (fun j _ => ⟨rfl, rfl, rfl, rfl, rfl⟩) rfl rfl ?_
  · exact ⟨fun _ => (⟨by decide, by decide⟩ : zB (-15000) 15000 0), fun _ => (⟨by decide, by decide⟩ : zB (-15000) 15000 0), fun _ => (⟨by decide, by decide⟩ : zB (-100000) 100000 0), fun _ => (⟨by decide, by decide⟩ : zB 0 2545620 0), fun _ => (⟨by decide, by decide⟩ : zB 0 200 0), fun _ => (⟨by decide, by decide⟩ : zB (-1) 1000 0), fun _ => (⟨by decide, by decide⟩ : zB (-15000) 15000 0), fun _ => (⟨by decide, by decide⟩ : zB (-15000) 15000 0), fun _ => (⟨by decide, by decide⟩ : zB (-15000) 15000 0), fun _ => (⟨by decide, by decide⟩ : zB (-15000) 15000 0), fun _ => (⟨by decide, by decide⟩ : zB (-100000) 100000 0), ⟨by decide, by decide⟩, ⟨by decide, by decide⟩, ⟨by decide, by decide⟩, ⟨by decide, by decide⟩, ⟨by decide, by decide⟩, ⟨by decide, by decide⟩⟩
  · exact ⟨fun _ => (⟨by decide, by decide⟩ : zB (-15000) 15000 0), fun _ => (⟨by decide, by decide⟩ : zB (-15000) 15000 0), fun _ => (⟨by decide, by decide⟩ : zB (-100000) 100000 0), fun _ => (⟨by decide, by decide⟩ : zB 0 2545620 0), fun _ => (⟨by decide, by decide⟩ : zB 0 200 0), fun _ => (⟨by decide, by decide⟩ : zB (-1) 1000 0), fun _ => (⟨by decide, by decide⟩ : zB (-100000) 100000 0), ⟨by decide, by decide⟩, ⟨by decide, by decide⟩, ⟨by decide, by decide⟩, ⟨by decide, by decide⟩, ⟨by decide, by decide⟩, ⟨by decide, by decide⟩⟩
  · intro i j h0 h1 h2
    have h3 : j < 0 := h2
    omega
  · intro i h0 h1
    have h3 : i < 0 := h1
    omega
theorem E_heights (hR : RR S N) (a b : Int) (_ : zB (-2147483648) 2147483647 a) (_ : zB (-2147483648) 2147483647 b) : (f_S_heights S a b).1 = (f_M_heights N a b).1 ∧ RR (f_S_heights S a b).2 (f_M_heights N a b).2 := by
  obtain ⟨hi, hj, r0, r1, r2, r3, r4, r5, rn, re, rt, rr, rb, rx, ro, rd, rw0, rv⟩ := id hR
  have hj2 := hj.2
  unfold f_S_heights f_M_heights
  rw [e_within, e_within]
  by_cases c1 : f_M_within a 0 1000 = 0
  · rw [if_pos c1, if_pos c1]; exact ⟨rfl, hR⟩
  rw [if_neg c1, if_neg c1]
  by_cases c2 : f_M_within b 0 1000 = 0
  · rw [if_pos c2, if_pos c2]; exact ⟨rfl, hR⟩
  rw [if_neg c2, if_neg c2]
  have ga := gf_M_within c1
  have gb := gf_M_within c2
  exact ⟨rfl, RR_mk (iS_v3 (iS_v2 hR.1 ga) gb) ⟨iN_v3 (iN_v2 hR.2.1.1 ga) gb, hj2⟩ r0 r1 r2 r3 r4 r5 rn rfl rfl rr rb rx ro rd rw0 rv⟩
theorem E_brake (hR : RR S N) (a b : Int) (_ : zB (-2147483648) 2147483647 a) (_ : zB (-2147483648) 2147483647 b) : (f_S_brake S a b).1 = (f_M_brake N a b).1 ∧ RR (f_S_brake S a b).2 (f_M_brake N a b).2 := by
  obtain ⟨hi, hj, r0, r1, r2, r3, r4, r5, rn, re, rt, rr, rb, rx, ro, rd, rw0, rv⟩ := id hR
  have hj2 := hj.2
  unfold f_S_brake f_M_brake
  rw [e_within, e_within]
  by_cases c1 : f_M_within a 0 100 = 0
  · rw [if_pos c1, if_pos c1]; exact ⟨rfl, hR⟩
  rw [if_neg c1, if_neg c1]
  by_cases c2 : f_M_within b 50 1000 = 0
  · rw [if_pos c2, if_pos c2]; exact ⟨rfl, hR⟩
  rw [if_neg c2, if_neg c2]
  have ga := gf_M_within c1
  have gb := gf_M_within c2
  exact ⟨rfl, RR_mk (iS_v5 (iS_v4 hR.1 ga) gb) ⟨iN_v5 (iN_v4 hR.2.1.1 ga) gb, hj2⟩ r0 r1 r2 r3 r4 r5 rn re rt rfl rfl rx ro rd rw0 rv⟩
theorem E_speed (hR : RR S N) (a b : Int) (_ : zB (-2147483648) 2147483647 a) (_ : zB (-2147483648) 2147483647 b) : (f_S_speed S a b).1 = (f_M_speed N a b).1 ∧ RR (f_S_speed S a b).2 (f_M_speed N a b).2 := by
  obtain ⟨hi, hj, r0, r1, r2, r3, r4, r5, rn, re, rt, rr, rb, rx, ro, rd, rw0, rv⟩ := id hR
  have hj2 := hj.2
  unfold f_S_speed f_M_speed
  rw [e_station hR, e_within]
  by_cases c1 : f_M_isStation N a = 0
  · rw [if_pos c1, if_pos c1]; exact ⟨rfl, hR⟩
  rw [if_neg c1, if_neg c1]
  by_cases c2 : f_M_within b 0 200 = 0
  · rw [if_pos c2, if_pos c2]; exact ⟨rfl, hR⟩
  rw [if_neg c2, if_neg c2]
  have gb := gf_M_within c2
  exact ⟨rfl, RR_mk (iS_u4 hR.1 (zu_b (iS_a4 hR.1) gb)) ⟨iN_u4 hR.2.1.1 (zu_b (iN_a4 hR.2.1.1) gb), hj2⟩ r0 r1 r2 r3 (congrArg (fun f => zu f a b) r4) r5 rn re rt rr rb rx ro rd rw0 rv⟩
theorem cnt_congr {g g' : Int → Int} : ∀ k : Nat, (∀ j : Nat, j < k → g (j : Int) = g' (j : Int)) → cntN g k = cntN g' k := by
  intro k
  induction k with
  | zero => intro _; rfl
  | succ k ih =>
    intro h
    show cntN g k + (if g (k : Int) < 0 then 0 else 1) = cntN g' k + (if g' (k : Int) < 0 then 0 else 1)
    rw [ih (fun j hj => h j (by omega)), h k (by omega)]
theorem cnt_up (g : Int → Int) {p d : Int} (hp : 0 ≤ p) (hd : 0 ≤ d) : ∀ k : Nat, p < (k : Int) → cntN (zu g p d) k = cntN g k + (if g p < 0 then 1 else 0) := by
  intro k
  induction k with
  | zero => intro h; exact absurd h (by omega)
  | succ k ih =>
    intro h
    show cntN (zu g p d) k + (if zu g p d (k : Int) < 0 then 0 else 1) = cntN g k + (if g (k : Int) < 0 then 0 else 1) + (if g p < 0 then 1 else 0)
    by_cases c : p = (k : Int)
    · subst c
      rw [cnt_congr k (fun j hj => zu_n (show ¬ (j : Int) = (k : Int) by omega)), zu_s, if_neg (show ¬ d < 0 by omega)]
      split <;> omega
    · rw [ih (by omega), zu_n (show ¬ (k : Int) = p by omega)]
      omega
theorem E_clear (hR : RR S N) (a b d : Int) (_ : zB (-2147483648) 2147483647 a) (_ : zB (-2147483648) 2147483647 b) (_ : zB (-2147483648) 2147483647 d) : (f_S_clear S a b d).1 = (f_M_clear N a b d).1 ∧ RR (f_S_clear S a b d).2 (f_M_clear N a b d).2 := by
  obtain ⟨hi, hj, r0, r1, r2, r3, r4, r5, rn, re, rt, rr, rb, rx, ro, rd, rw0, rv⟩ := id hR
  have hj2 := hj.2
  unfold f_S_clear f_M_clear
  rw [e_station hR, e_side, e_within]
  by_cases c1 : f_M_isStation N a = 0
  · rw [if_pos c1, if_pos c1]; exact ⟨rfl, hR⟩
  rw [if_neg c1, if_neg c1]
  by_cases c2 : f_M_within b 0 1 = 0
  · rw [if_pos c2, if_pos c2]; exact ⟨rfl, hR⟩
  rw [if_neg c2, if_neg c2]
  by_cases c3 : f_M_within d 0 1000 = 0
  · rw [if_pos c3, if_pos c3]; exact ⟨rfl, hR⟩
  rw [if_neg c3, if_neg c3]
  have ga := g_st c1
  obtain ⟨gb1, gb2⟩ := gf_M_within c2
  have gd := gf_M_within c3
  have gd2 : zB (-1) 1000 d := zB.w gd (by decide) (by decide)
  have hcu := cnt_up (N 5) (p := 2 * a + b) (d := d) (by omega) gd.1 (2 * N 7 0).toNat (by omega)
  have e5 := rr_5 hR
  have hlow := (jN_a5 hR.2.1 (2 * a + b)).1
  by_cases c4 : S 5 (2 * a + b) = -1
  · rw [if_pos c4]
    rw [e5] at c4
    rw [if_pos (by omega)] at hcu
    exact ⟨rfl, RR_mk (iS_u5 (iS_v1 hR.1) (zu_b (iS_a5 hR.1) gd2)) ⟨iN_u5 hR.2.1.1 (zu_b (iN_a5 hR.2.1.1) gd2), hj2⟩ r0 r1 r2 r3 r4 (congrArg (fun f => zu f (2 * a + b) d) e5) rn re rt rr rb rx ro ((congrArg (fun x => x + 1) rd).trans hcu.symm) rw0 rv⟩
  · rw [if_neg c4]
    rw [e5] at c4
    rw [if_neg (by omega), Int.add_zero] at hcu
    exact ⟨rfl, RR_mk (iS_u5 hR.1 (zu_b (iS_a5 hR.1) gd2)) ⟨iN_u5 hR.2.1.1 (zu_b (iN_a5 hR.2.1.1) gd2), hj2⟩ r0 r1 r2 r3 r4 (congrArg (fun f => zu f (2 * a + b) d) e5) rn re rt rr rb rx ro (rd.trans hcu.symm) rw0 rv⟩
end P7
