section P9
variable {S N : Nat → Int → Int}
theorem E_station (hR : RR S N) (a b d : Int) (_ : zB (-2147483648) 2147483647 a) (_ : zB (-2147483648) 2147483647 b) (_ : zB (-2147483648) 2147483647 d) : (f_S_station S a b d).1 = (f_M_station N a b d).1 ∧ RR (f_S_station S a b d).2 (f_M_station N a b d).2 := by
  obtain ⟨hi, hj, r0, r1, r2, r3, r4, r5, rn, re, rt, rr, rb, rx, ro, rd, rw0, rv⟩ := id hR
  obtain ⟨hn0, hn1⟩ := id (jN_s0 hj)
  unfold f_S_station f_M_station
  rw [e_plane, e_level]
  by_cases c1 : f_M_isPoint a b = 0
  · rw [if_pos c1, if_pos c1]; exact ⟨rfl, hR⟩
  rw [if_neg c1, if_neg c1]
  by_cases c2 : f_M_within d (-100000) 100000 = 0
  · rw [if_pos c2, if_pos c2]; exact ⟨rfl, hR⟩
  rw [if_neg c2, if_neg c2, rn]
  obtain ⟨ga, gb⟩ := gf_M_isPoint c1
  have gd := gf_M_within c2
  by_cases c3 : N 7 0 = 60
  · rw [if_neg (show ¬ N 7 0 < 60 by omega), if_pos c3]; exact ⟨rfl, hR⟩
  rw [if_pos (show N 7 0 < 60 by omega), if_neg c3]
  by_cases c4 : N 7 0 = 0
  · rw [if_pos c4, if_neg (show ¬ 0 < N 7 0 by omega)]
    have key := RR_st hR a b d 0 ga gb gd (by omega) (by decide) (by omega) (fun _ => rfl) (fun h => absurd h (by omega))
    have hz0 : zu (N 3) (N 7 0) 0 = N 3 := by
      funext j
      unfold zu
      split
      · rename_i q
        rw [q, c4, rw0]
      · rfl
    have eN : zNt N (N 7 0) a b d (N 3) = zs (zs (zs (zs (zs (zs (zs N 0 (zu (N 0) (N 7 0) a)) 1 (zu (N 1) (N 7 0) b)) 2 (zu (N 2) (N 7 0) d)) 4 (zu (N 4) (N 7 0) 50)) 5 (zu (N 5) (2 * (N 7 0)) (-1))) 5 (zu (zu (N 5) (2 * (N 7 0)) (-1)) ((2 * (N 7 0)) + 1) (-1))) 7 (zu ((zs (zs (zs (zs (zs (zs N 0 (zu (N 0) (N 7 0) a)) 1 (zu (N 1) (N 7 0) b)) 2 (zu (N 2) (N 7 0) d)) 4 (zu (N 4) (N 7 0) 50)) 5 (zu (N 5) (2 * (N 7 0)) (-1))) 5 (zu (zu (N 5) (2 * (N 7 0)) (-1)) ((2 * (N 7 0)) + 1) (-1))) 7) 0 ((N 7 0) + 1)) := by
      unfold zNt
      rw [zs_id (zs (zs (zs (zs (zs (zs N 0 (zu (N 0) (N 7 0) a)) 1 (zu (N 1) (N 7 0) b)) 2 (zu (N 2) (N 7 0) d)) 4 (zu (N 4) (N 7 0) 50)) 5 (zu (N 5) (2 * (N 7 0)) (-1))) 5 (zu (zu (N 5) (2 * (N 7 0)) (-1)) ((2 * (N 7 0)) + 1) (-1))) 3 (N 3) rfl]
    rw [hz0, eN] at key
    exact ⟨rfl, key⟩
  rw [if_neg c4, if_pos (show 0 < N 7 0 by omega)]
  have b0 := zu_b (i := N 7 0) (iN_a0 hj.1) ga (N 7 0 - 1)
  have b1 := zu_b (i := N 7 0) (iN_a1 hj.1) gb (N 7 0 - 1)
  have hQ : zB 0 1800000000 (f_M_square (a - (zu (N 0) (N 7 0) a ((N 7 0) - 1))) + f_M_square (b - (zu (N 1) (N 7 0) b ((N 7 0) - 1)))) := zB.w (zb_add (zb_sq (A := 30000) (zB.w (zb_sub ga b0) (by decide) (by decide))) (zb_sq (A := 30000) (zB.w (zb_sub gb b1) (by decide) (by decide)))) (by decide) (by decide)
  have hq : f_S_squareBetween (zs (zs (zs (zs (zs (zs S 0 (zu (S 0) (N 7 0) a)) 1 (zu (S 1) (N 7 0) b)) 2 (zu (S 2) (N 7 0) d)) 4 (zu (S 4) (N 7 0) 50)) 5 (zu (S 5) ((2 * (N 7 0)) + 0) (-1))) 5 (zu (zu (S 5) ((2 * (N 7 0)) + 0) (-1)) ((2 * (N 7 0)) + 1) (-1))) (N 7 0 - 1) (N 7 0) = (f_M_square (a - (zu (N 0) (N 7 0) a ((N 7 0) - 1))) + f_M_square (b - (zu (N 1) (N 7 0) b ((N 7 0) - 1)))) := by
    show f_S_squareOf (zu (S 0) (N 7 0) a (N 7 0) - zu (S 0) (N 7 0) a (N 7 0 - 1)) (zu (S 1) (N 7 0) b (N 7 0) - zu (S 1) (N 7 0) b (N 7 0 - 1)) = _
    rw [zu_s, zu_s, r0, r1]
    rfl
  have hroot := fr_M_root _ hQ
  have hle := zq_le hroot.1 hroot.2.1 hQ.2
  have hst : f_S_stepBetween (zs (zs (zs (zs (zs (zs S 0 (zu (S 0) (N 7 0) a)) 1 (zu (S 1) (N 7 0) b)) 2 (zu (S 2) (N 7 0) d)) 4 (zu (S 4) (N 7 0) 50)) 5 (zu (S 5) ((2 * (N 7 0)) + 0) (-1))) 5 (zu (zu (S 5) ((2 * (N 7 0)) + 0) (-1)) ((2 * (N 7 0)) + 1) (-1))) (N 7 0 - 1) (N 7 0) = zmax 1 (f_M_root (f_M_square (a - (zu (N 0) (N 7 0) a ((N 7 0) - 1))) + f_M_square (b - (zu (N 1) (N 7 0) b ((N 7 0) - 1))))) := by
    unfold f_S_stepBetween
    rw [hq, e_root _ hQ]
  have hv := rv (N 7 0 - 1) (by omega) (by omega)
  have hp := (iN_a3 hj.1 (N 7 0 - 1)).1
  generalize hr : f_M_root (f_M_square (a - (zu (N 0) (N 7 0) a ((N 7 0) - 1))) + f_M_square (b - (zu (N 1) (N 7 0) b ((N 7 0) - 1)))) = r at *
  by_cases c5 : r < 1
  · rw [if_pos c5]
    have hw : S 3 (N 7 0 - 1) + f_S_stepBetween (zs (zs (zs (zs (zs (zs S 0 (zu (S 0) (N 7 0) a)) 1 (zu (S 1) (N 7 0) b)) 2 (zu (S 2) (N 7 0) d)) 4 (zu (S 4) (N 7 0) 50)) 5 (zu (S 5) ((2 * (N 7 0)) + 0) (-1))) 5 (zu (zu (S 5) ((2 * (N 7 0)) + 0) (-1)) ((2 * (N 7 0)) + 1) (-1))) (N 7 0 - 1) (N 7 0) = N 3 (N 7 0 - 1) + 1 := by
      rw [hst, r3, show zmax 1 r = 1 from if_neg (by omega)]
    have key := RR_st hR a b d (N 3 (N 7 0 - 1) + 1) ga gb gd (by omega) (by omega) (by omega) (fun h => absurd h c4) (fun _ => by omega)
    refine ⟨rfl, ?_⟩
    show RR (zSt S (N 7 0) a b d (S 3 (N 7 0 - 1) + f_S_stepBetween (zs (zs (zs (zs (zs (zs S 0 (zu (S 0) (N 7 0) a)) 1 (zu (S 1) (N 7 0) b)) 2 (zu (S 2) (N 7 0) d)) 4 (zu (S 4) (N 7 0) 50)) 5 (zu (S 5) ((2 * (N 7 0)) + 0) (-1))) 5 (zu (zu (S 5) ((2 * (N 7 0)) + 0) (-1)) ((2 * (N 7 0)) + 1) (-1))) (N 7 0 - 1) (N 7 0))) (zNt N (N 7 0) a b d (zu (N 3) (N 7 0) (N 3 (N 7 0 - 1) + 1)))
    rw [hw]
    exact key
  · rw [if_neg c5]
    have hw : S 3 (N 7 0 - 1) + f_S_stepBetween (zs (zs (zs (zs (zs (zs S 0 (zu (S 0) (N 7 0) a)) 1 (zu (S 1) (N 7 0) b)) 2 (zu (S 2) (N 7 0) d)) 4 (zu (S 4) (N 7 0) 50)) 5 (zu (S 5) ((2 * (N 7 0)) + 0) (-1))) 5 (zu (zu (S 5) ((2 * (N 7 0)) + 0) (-1)) ((2 * (N 7 0)) + 1) (-1))) (N 7 0 - 1) (N 7 0) = N 3 (N 7 0 - 1) + r := by
      rw [hst, r3, show zmax 1 r = r by unfold zmax; split <;> omega]
    have key := RR_st hR a b d (N 3 (N 7 0 - 1) + r) ga gb gd (by omega) (by omega) (by omega) (fun h => absurd h c4) (fun _ => by omega)
    refine ⟨rfl, ?_⟩
    show RR (zSt S (N 7 0) a b d (S 3 (N 7 0 - 1) + f_S_stepBetween (zs (zs (zs (zs (zs (zs S 0 (zu (S 0) (N 7 0) a)) 1 (zu (S 1) (N 7 0) b)) 2 (zu (S 2) (N 7 0) d)) 4 (zu (S 4) (N 7 0) 50)) 5 (zu (S 5) ((2 * (N 7 0)) + 0) (-1))) 5 (zu (zu (S 5) ((2 * (N 7 0)) + 0) (-1)) ((2 * (N 7 0)) + 1) (-1))) (N 7 0 - 1) (N 7 0))) (zNt N (N 7 0) a b d (zu (N 3) (N 7 0) (N 3 (N 7 0 - 1) + r)))
    rw [hw]
    exact key
end P9
