set_option maxHeartbeats 4000000 in
set_option maxRecDepth 100000 in
theorem law_loop {p : Program} {l : Launch} {e : Env} {s : State} {m : MethodId} {below : List Frame} {meth : Method} {c : Code} {dC : Nat → ClassId} {dI : Nat → Nat → Nat} {cI : ClassId} {ad ae : Nat → Nat} {b L : Nat} {xs : Nat → Int32} (hL : L ≤ 3072) (C0 : lw_At p s m meth c b L xs) (G0 : zG2 dC dI cI ad ae s) : ∀ (n : Nat) (i : Int) (H : Heap) (locs : List Loc) (ls : Array Slot), 0 ≤ i → i ≤ (L : Int) + 5 → (L : Int) + 6 - i < (n : Int) → zI2 dC dI cI ad ae s H → va_S (fun q : Nat => s.heap.size ≤ q) s.heap H locs → lv_has ls 4 [(0, .ref b), (1, .ref (ad 0)), (2, .ref (ae 0)), (3, .int (zi i))] → W p l e room_1 s m #[Value.ref b] below meth c H locs 21 960 (lw_Z below #[Value.ref b] s) (F0 m 18 ls []) := by
  obtain ⟨hx, hb, hr, hml, hown, hts, hX, hbl, hlocks, hgv⟩ := id C0
  have hbA : ¬ (fun q : Nat => s.heap.size ≤ q) b := Nat.not_le.mpr hbl
  intro n
  induction n with
  | zero => intro i H locs ls h0 h1 hn; exact absurd hn (by omega)
  | succ n ih =>
    intro i H locs ls h0 h1 hn hI2 hS hl
    refine lv_iload_n hx hb d_L_law_18 rfl (lv_at hl 3 rfl) ?_
    refine lv_aload_n hx hb d_L_law_19 rfl (lv_at hl 0 rfl) ?_
    refine zr_slen hx hb hX hbl hbA hS d_L_law_20 ?_
    refine lv_bipush (v := zi 6) hx hb d_L_law_21 (by decide) ?_
    refine zr_isub hx hb d_L_law_23 ?_
    refine zr_icmp_gt (tgt := 807) hx hb ⟨by omega, by omega⟩ ⟨by omega, by omega⟩ d_L_law_24 (by decide) (fun c1 => ?_) (fun c1 => ?_)
    · refine lv_iconst (v := 1) hx hb d_L_law_807 (by decide) ?_
      refine va_forget (fun q hq => hS.2.2 q hq) ?_
      exact lw_ret hx hb hr hlocks d_L_law_808
    · have nx : ∀ (H : Heap) (locs : List Loc) (ls : Array Slot), zI2 dC dI cI ad ae s H → va_S (fun q : Nat => s.heap.size ≤ q) s.heap H locs → lv_has ls 4 [(0, .ref b), (1, .ref (ad 0)), (2, .ref (ae 0)), (3, .int (zi i))] → W p l e room_1 s m #[Value.ref b] below meth c H locs 21 960 (lw_Z below #[Value.ref b] s) (F0 m 801 ls []) := by
        intro H locs ls hI2 hS hl
        refine lv_iinc (v := zi (i + 6)) (lv' := [(3, .int (zi (i + 6))), (0, .ref b), (1, .ref (ad 0)), (2, .ref (ae 0))]) hx hb d_L_law_801 hl (k := 3) rfl (zi_add _ _) (by decide) rfl (fun ls hl => ?_)
        refine lv_goto (tgt := 18) hx hb d_L_law_804 (by decide) ?_
        exact ih (i + 6) H locs ls (by omega) (by omega) (by omega) hI2 hS (lv_sub hl [1, 2, 3, 0] rfl)
      refine lv_aload_n hx hb d_L_law_27 rfl (lv_at hl 0 rfl) ?_
      refine lv_iload_n hx hb d_L_law_28 rfl (lv_at hl 3 rfl) ?_
      refine zr_sld hx hb hX hbl hbA hS (i := i) (by omega) (by omega) (by omega) d_L_law_29 ?_
      refine lv_bipush (v := zi 31) hx hb d_L_law_30 (by decide) ?_
      refine lv_iand hx hb d_L_law_32 ?_
      obtain ⟨j, hj, ej⟩ := z_and (zX xs i)
      rw [ej]
      have ejt : (nI j).toInt = (j : Int) := nI_toInt (by omega)
      by_cases hc0 : j = 0
      · refine lv_tableIn (tgt := 116) (off := 83) hx hb d_L_law_33 (by rw [ejt]; omega) (by rw [ejt]; omega) (by rw [ejt, hc0]; rfl) (by decide) ?_
        exact law_station hL C0 G0 i h0 (by omega) nx H locs ls hI2 hS hl
      by_cases hc1 : j = 1
      · refine lv_tableIn (tgt := 159) (off := 126) hx hb d_L_law_33 (by rw [ejt]; omega) (by rw [ejt]; omega) (by rw [ejt, hc1]; rfl) (by decide) ?_
        exact law_heights hL C0 G0 i h0 (by omega) nx H locs ls hI2 hS hl
      by_cases hc2 : j = 2
      · refine lv_tableIn (tgt := 192) (off := 159) hx hb d_L_law_33 (by rw [ejt]; omega) (by rw [ejt]; omega) (by rw [ejt, hc2]; rfl) (by decide) ?_
        exact law_clear hL C0 G0 i h0 (by omega) nx H locs ls hI2 hS hl
      by_cases hc3 : j = 3
      · refine lv_tableIn (tgt := 235) (off := 202) hx hb d_L_law_33 (by rw [ejt]; omega) (by rw [ejt]; omega) (by rw [ejt, hc3]; rfl) (by decide) ?_
        exact law_box hL C0 G0 i h0 (by omega) nx H locs ls hI2 hS hl
      by_cases hc4 : j = 4
      · refine lv_tableIn (tgt := 298) (off := 265) hx hb d_L_law_33 (by rw [ejt]; omega) (by rw [ejt]; omega) (by rw [ejt, hc4]; rfl) (by decide) ?_
        exact law_speed hL C0 G0 i h0 (by omega) nx H locs ls hI2 hS hl
      by_cases hc5 : j = 5
      · refine lv_tableIn (tgt := 331) (off := 298) hx hb d_L_law_33 (by rw [ejt]; omega) (by rw [ejt]; omega) (by rw [ejt, hc5]; rfl) (by decide) ?_
        exact law_brake hL C0 G0 i h0 (by omega) nx H locs ls hI2 hS hl
      by_cases hc6 : j = 6
      · refine lv_tableIn (tgt := 364) (off := 331) hx hb d_L_law_33 (by rw [ejt]; omega) (by rw [ejt]; omega) (by rw [ejt, hc6]; rfl) (by decide) ?_
        exact law_way hL C0 G0 i h0 (by omega) nx H locs ls hI2 hS hl
      by_cases hc7 : j = 7
      · refine lv_tableIn (tgt := 387) (off := 354) hx hb d_L_law_33 (by rw [ejt]; omega) (by rw [ejt]; omega) (by rw [ejt, hc7]; rfl) (by decide) ?_
        exact law_view hL C0 G0 i h0 (by omega) nx H locs ls hI2 hS hl
      by_cases hc8 : j = 8
      · refine lv_tableIn (tgt := 430) (off := 397) hx hb d_L_law_33 (by rw [ejt]; omega) (by rw [ejt]; omega) (by rw [ejt, hc8]; rfl) (by decide) ?_
        exact law_sight hL C0 G0 i h0 (by omega) nx H locs ls hI2 hS hl
      by_cases hc9 : j = 9
      · refine lv_tableIn (tgt := 479) (off := 446) hx hb d_L_law_33 (by rw [ejt]; omega) (by rw [ejt]; omega) (by rw [ejt, hc9]; rfl) (by decide) ?_
        exact law_need hL C0 G0 i h0 (by omega) nx H locs ls hI2 hS hl
      by_cases hc10 : j = 10
      · refine lv_tableIn (tgt := 528) (off := 495) hx hb d_L_law_33 (by rw [ejt]; omega) (by rw [ejt]; omega) (by rw [ejt, hc10]; rfl) (by decide) ?_
        exact law_blind hL C0 G0 i h0 (by omega) nx H locs ls hI2 hS hl
      by_cases hc11 : j = 11
      · refine lv_tableIn (tgt := 587) (off := 554) hx hb d_L_law_33 (by rw [ejt]; omega) (by rw [ejt]; omega) (by rw [ejt, hc11]; rfl) (by decide) ?_
        exact law_setBack hL C0 G0 i h0 (by omega) nx H locs ls hI2 hS hl
      by_cases hc12 : j = 12
      · refine lv_tableIn (tgt := 620) (off := 587) hx hb d_L_law_33 (by rw [ejt]; omega) (by rw [ejt]; omega) (by rw [ejt, hc12]; rfl) (by decide) ?_
        exact law_allowed hL C0 G0 i h0 (by omega) nx H locs ls hI2 hS hl
      by_cases hc13 : j = 13
      · refine lv_tableIn (tgt := 669) (off := 636) hx hb d_L_law_33 (by rw [ejt]; omega) (by rw [ejt]; omega) (by rw [ejt, hc13]; rfl) (by decide) ?_
        exact law_overtake hL C0 G0 i h0 (by omega) nx H locs ls hI2 hS hl
      by_cases hc14 : j = 14
      · refine lv_tableIn (tgt := 692) (off := 659) hx hb d_L_law_33 (by rw [ejt]; omega) (by rw [ejt]; omega) (by rw [ejt, hc14]; rfl) (by decide) ?_
        exact law_seen hL C0 G0 i h0 (by omega) nx H locs ls hI2 hS hl
      by_cases hc15 : j = 15
      · refine lv_tableIn (tgt := 735) (off := 702) hx hb d_L_law_33 (by rw [ejt]; omega) (by rw [ejt]; omega) (by rw [ejt, hc15]; rfl) (by decide) ?_
        exact law_light hL C0 G0 i h0 (by omega) nx H locs ls hI2 hS hl
      by_cases hc16 : j = 16
      · refine lv_tableIn (tgt := 778) (off := 745) hx hb d_L_law_33 (by rw [ejt]; omega) (by rw [ejt]; omega) (by rw [ejt, hc16]; rfl) (by decide) ?_
        exact law_count hL C0 G0 i h0 (by omega) nx H locs ls hI2 hS hl
      refine lv_tableOut (tgt := 801) hx hb d_L_law_33 (Or.inr (by rw [ejt]; omega)) (by decide) ?_
      exact nx H locs ls hI2 hS hl
set_option maxHeartbeats 4000000 in
set_option maxRecDepth 100000 in
/-- THE LAW, from its entry -/
theorem whole_start {p : Program} {e : Env} {s : State} {m : MethodId} {below : List Frame} {meth : Method} {c : Code} (l : Launch) {b L : Nat} {xs : Nat → Int32} (hL : L ≤ 3072) (C0 : lw_At p s m meth c b L xs) : W p l e room_1 s m #[Value.ref b] below meth c s.heap [] 0 0 (lw_Z below #[Value.ref b] s) (entryFrame m ([Value.ref b] : List Value).toArray 4) := by
  obtain ⟨hx, hb, hr, hml, hown, hts, hX, hbl, hlocks, hgv⟩ := id C0
  have hw : ∀ w9 ∈ zT, w9.before #[Value.ref b] s = true := fun w9 h => hts w9 (zT_in h)
  have hA : ∀ q : Nat, s.heap.size ≤ q → (fun q : Nat => s.heap.size ≤ q) q := fun _ h => h
  obtain ⟨c0, iS0, hKn0⟩ := u_known (C := R_B) (T := T_B) (N := 10) (n := 10) hw i_B (hw _ m_14)
  obtain ⟨c1, iS1, hKn1⟩ := u_known (C := R_S) (T := T_S) (N := 13) (n := 13) hw i_S (hw _ m_6)
  obtain ⟨c2, iS2, hKn2⟩ := u_known (C := R_M) (T := T_M) (N := 17) (n := 17) hw i_M (hw _ m_221)
  obtain ⟨dC, dI, hKc⟩ : ∃ (dC : Nat → ClassId) (dI : Nat → Nat → Nat), ∀ (k : Nat) (q : vw_C), classes[k]? = some q → u_Kn s q.1 q.2.1 q.2.2 (dC k) (dI k) := by
    refine ⟨fun k => if k = 0 then c0 else if k = 1 then c1 else c2, fun k => if k = 0 then iS0 else if k = 1 then iS1 else iS2, ?_⟩
    intro k q hq
    match k, hq with
    | 0, hq => cases hq; exact hKn0
    | 1, hq => cases hq; exact hKn1
    | 2, hq => cases hq; exact hKn2
    | k + 3, hq => simp [classes] at hq
  obtain ⟨cI, kA, comp, g1, g2, g3⟩ := Cond.arrayClass_spec (hw _ m_30)
  have hK : va_K (dC, dI) classes [(cI, .int)] s := ⟨hKc, fun k q h => by
    have hk : k < 1 := (List.getElem?_eq_some_iff.mp h).1
    rw [show k = 0 by omega] at h
    cases h
    exact ⟨fun n z => ⟨fun k h => (by cases h), kA, g2, comp, g3⟩, g1⟩⟩
  have hN : zN s := ⟨va_Nw.of rfl (hts _ m_135), va_Nw.of rfl (hts _ m_25), va_Nw.of rfl (hts _ m_92), va_Nw.of rfl (hts _ m_15)⟩
  have hS : va_S (fun q : Nat => s.heap.size ≤ q) s.heap s.heap [] := va_S.rf
  have hP : va_P (dC, dI) classes [] s.heap := fun k q h => by simp at h
  have hD : va_D (fun q : Nat => s.heap.size ≤ q) [] := ⟨fun i j p q h => by simp at h, fun k q h => by simp at h⟩
  have hl := lv_entry ([.ref b]) (n := 4) (Nat.le_of_ble_eq_true rfl)
  rw [lg_entry_eq]
  generalize (lg_sl ([.ref b]) ++ List.replicate (4 - (lg_sl ([.ref b])).length) Slot.unset).toArray = ls at hl ⊢
  replace hl : lv_has ls 4 [(0, .ref b)] := hl
  refine va_new (ci := 1) (fs := [.null, .null, .null, .null, .null, .null, .null, .int 0, .int 0, .int 0, .int 0, .int 0, .int 0]) (C := R_S) (T := T_S) (N := 13) hx hb hw i_S t_S ty_S hown (hw _ m_5) (hw _ m_6) (hw _ m_1) hK hP hD hS hA rfl (fun j hj => by rcases (show j = 0 ∨ j = 1 ∨ j = 2 ∨ j = 3 ∨ j = 4 ∨ j = 5 ∨ j = 6 ∨ j = 7 ∨ j = 8 ∨ j = 9 ∨ j = 10 ∨ j = 11 ∨ j = 12 by omega) with rfl | rfl | rfl | rfl | rfl | rfl | rfl | rfl | rfl | rfl | rfl | rfl | rfl <;> rfl) (Nat.le_of_ble_eq_true rfl) (Nat.le_of_ble_eq_true rfl) d_L_law_0 (fun q1 H hP hD hS => ?_)
  replace hP : va_P (dC, dI) classes [(q1, .inr (1, [.null, .null, .null, .null, .null, .null, .null, .int 0, .int 0, .int 0, .int 0, .int 0, .int 0]))] H := hP
  replace hD : va_D (fun q : Nat => s.heap.size ≤ q) [(q1, .inr (1, [.null, .null, .null, .null, .null, .null, .null, .int 0, .int 0, .int 0, .int 0, .int 0, .int 0]))] := hD
  refine lv_dup hx hb d_L_law_3 rfl ?_
  have hFc := va_free (wc := [(q1, .inr (1, [.null, .null, .null, .null, .null, .null, .null, .int 0, .int 0, .int 0, .int 0, .int 0, .int 0]))]) hD hS hA [0] rfl
  refine zc_w (va_runI (As := []) (rest := [.ref q1]) ⟨hx, hb, hml, hown, hts⟩ (k_S_init l dC dI cI q1 H.size) ⟨zlB 0 hts m_9 m_1 m_7 rfl rfl q_S_init ⟨Nat.le_of_ble_eq_true rfl, Nat.le_of_ble_eq_true rfl⟩, rfl, hw _ m_8⟩ ⟨fun a U g mk z => by obtain ⟨z0, z1, z2, z3, z4⟩ := z; exact ⟨z0, z1, z2, va_K.moved (u := U) (U := U.calling g mk a) (Vm.Alike.refl U.vm) z3, zN.same (u := U) rfl z4⟩, fun U hU hW => ⟨rfl, by rw [hU], by rw [hU]; exact hP, va_K.moved hW.alike hK, hN.warm hW⟩⟩ rfl rfl hl.1 rfl (lv_room (Nat.le_of_ble_eq_true rfl)) d_L_law_4 ⟨Nat.le_of_ble_eq_true rfl, Nat.le_of_ble_eq_true rfl⟩) hS (fun z _ h => hFc z h) hFc (fun H1 locs hQ hz1 hk1 hS => ?_)
  obtain ⟨ad, rfl, hP1, hD1⟩ := hQ
  replace hD1 := hD1.weaken (fun k q _ h => hFc q.1 h)
  clear hP hD hFc hk1 hz1
  generalize H1 = H at hP1 hS ⊢
  refine lv_astore_n (lv' := [(1, .ref (ad 0)), (0, .ref b)]) hx hb d_L_law_7 rfl hl (by decide) rfl (fun ls hl => ?_)
  refine va_new (ci := 2) (fs := [.int 0, .null, .null, .null, .null, .null, .null, .int 0, .null, .int 0, .int 0, .int 0, .int 0, .long 0, .long 0, .long 0, .long 0]) (C := R_M) (T := T_M) (N := 17) hx hb hw i_M t_M ty_M hown (hw _ m_220) (hw _ m_221) (hw _ m_3) hK hP1 hD1 hS hA rfl (fun j hj => by rcases (show j = 0 ∨ j = 1 ∨ j = 2 ∨ j = 3 ∨ j = 4 ∨ j = 5 ∨ j = 6 ∨ j = 7 ∨ j = 8 ∨ j = 9 ∨ j = 10 ∨ j = 11 ∨ j = 12 ∨ j = 13 ∨ j = 14 ∨ j = 15 ∨ j = 16 by omega) with rfl | rfl | rfl | rfl | rfl | rfl | rfl | rfl | rfl | rfl | rfl | rfl | rfl | rfl | rfl | rfl | rfl <;> rfl) (Nat.le_of_ble_eq_true rfl) (Nat.le_of_ble_eq_true rfl) d_L_law_8 (fun q2 H hP hD hS => ?_)
  have hPm : va_P (dC, dI) classes [(q2, .inr (2, [.int 0, .null, .null, .null, .null, .null, .null, .int 0, .null, .int 0, .int 0, .int 0, .int 0, .long 0, .long 0, .long 0, .long 0]))] H := fun k q h => hP (k + 13) q (by
    have hk : k < 1 := (List.getElem?_eq_some_iff.mp h).1
    rw [show k = 0 by omega] at h ⊢
    exact h)
  have hPs : va_P (dC, dI) classes (wS ad cI S0 0 0 0 0) H := fun k q h => hP k q (by
    rw [List.getElem?_append_left (List.getElem?_eq_some_iff.mp h).1]
    exact h)
  have hDs : va_D (fun q : Nat => s.heap.size ≤ q) (wS ad cI S0 0 0 0 0) := hD1
  have hj1 : zJ 13 ad := zJ_of hDs rfl
  have hlt : ∀ q, zAS ad q → q < H.size := fun q h => by
    obtain ⟨i, hi, rfl⟩ := h
    obtain ⟨x, hx1, hx2⟩ : ∃ x, (wS ad cI S0 0 0 0 0)[i]? = some x ∧ x.1 = ad i := by
      rcases (show i = 0 ∨ i = 1 ∨ i = 2 ∨ i = 3 ∨ i = 4 ∨ i = 5 ∨ i = 6 ∨ i = 7 ∨ i = 8 ∨ i = 9 ∨ i = 10 ∨ i = 11 ∨ i = 12 by omega) with rfl | rfl | rfl | rfl | rfl | rfl | rfl | rfl | rfl | rfl | rfl | rfl | rfl <;> exact ⟨_, rfl, rfl⟩
    rw [← hx2]
    exact (hPs i x hx1).lt
  have hne : ∀ q, zAS ad q → q ≠ q2 := fun q h e1 => by
    obtain ⟨i, hi, rfl⟩ := h
    have h13 : (wS ad cI S0 0 0 0 0 ++ [(q2, .inr (2, [.int 0, .null, .null, .null, .null, .null, .null, .int 0, .null, .int 0, .int 0, .int 0, .int 0, .long 0, .long 0, .long 0, .long 0]))])[13]? = some (q2, .inr (2, [.int 0, .null, .null, .null, .null, .null, .null, .int 0, .null, .int 0, .int 0, .int 0, .int 0, .long 0, .long 0, .long 0, .long 0])) := rfl
    have hii : ∃ x, (wS ad cI S0 0 0 0 0 ++ [(q2, .inr (2, [.int 0, .null, .null, .null, .null, .null, .null, .int 0, .null, .int 0, .int 0, .int 0, .int 0, .long 0, .long 0, .long 0, .long 0]))])[i]? = some x ∧ x.1 = ad i := by
      rcases (show i = 0 ∨ i = 1 ∨ i = 2 ∨ i = 3 ∨ i = 4 ∨ i = 5 ∨ i = 6 ∨ i = 7 ∨ i = 8 ∨ i = 9 ∨ i = 10 ∨ i = 11 ∨ i = 12 by omega) with rfl | rfl | rfl | rfl | rfl | rfl | rfl | rfl | rfl | rfl | rfl | rfl | rfl <;> exact ⟨_, rfl, rfl⟩
    obtain ⟨x, hx1, hx2⟩ := hii
    have := hD.1 i 13 x (q2, .inr (2, [.int 0, .null, .null, .null, .null, .null, .null, .int 0, .null, .int 0, .int 0, .int 0, .int 0, .long 0, .long 0, .long 0, .long 0])) hx1 h13 (by rw [hx2]; exact e1)
    omega
  have hq2 : s.heap.size ≤ q2 := hD.2 13 (q2, .inr (2, [.int 0, .null, .null, .null, .null, .null, .null, .int 0, .null, .int 0, .int 0, .int 0, .int 0, .long 0, .long 0, .long 0, .long 0])) rfl
  refine lv_dup hx hb d_L_law_11 rfl ?_
  have hF2 : ∀ q, va_A [(q2, .inr (2, [.int 0, .null, .null, .null, .null, .null, .null, .int 0, .null, .int 0, .int 0, .int 0, .int 0, .long 0, .long 0, .long 0, .long 0]))] H.size q → s.heap.size ≤ q := fun q h => by
    rcases h with ⟨k, e1, h⟩ | h
    · have hk : k < 1 := (List.getElem?_eq_some_iff.mp h).1
      rw [show k = 0 by omega] at h
      cases h
      exact hq2
    · exact Nat.le_trans hS.1 h
  refine zc_w (va_runI (As := []) (rest := [.ref q2]) ⟨hx, hb, hml, hown, hts⟩ (k_M_init l dC dI cI q2 H.size) ⟨zlB 0 hts m_224 m_3 m_222 rfl rfl q_M_init ⟨Nat.le_of_ble_eq_true rfl, Nat.le_of_ble_eq_true rfl⟩, rfl, hw _ m_223⟩ ⟨fun a U g mk z => by obtain ⟨z0, z1, z2, z3⟩ := z; exact ⟨z0, z1, z2, va_K.moved (u := U) (U := U.calling g mk a) (Vm.Alike.refl U.vm) z3⟩, fun U hU hW => ⟨rfl, by rw [hU], by rw [hU]; exact hPm, va_K.moved hW.alike hK⟩⟩ rfl rfl hl.1 rfl (lv_room (Nat.le_of_ble_eq_true rfl)) d_L_law_12 ⟨Nat.le_of_ble_eq_true rfl, Nat.le_of_ble_eq_true rfl⟩) hS (fun z _ h => hF2 z h) hF2 (fun H1 locs hQ hz1 hk1 hS => ?_)
  obtain ⟨ae, rfl, hM, hDm⟩ := hQ
  have hj2 : zJ 8 ae := zJ_of hDm rfl
  have hgm : ∀ q, zAM ae q → va_A [(ae 0, .inr (2, [.int 0, .null, .null, .null, .null, .null, .null, .int 0, .null, .int 0, .int 0, .int 0, .int 0, .long 0, .long 0, .long 0, .long 0]))] H.size q := fun q h => by
    obtain ⟨i, hi, rfl⟩ := h
    obtain ⟨x, hx1, hx2⟩ : ∃ x, (wM ae cI N0 0 0 0 0)[i]? = some x ∧ x.1 = ae i := by
      rcases (show i = 0 ∨ i = 1 ∨ i = 2 ∨ i = 3 ∨ i = 4 ∨ i = 5 ∨ i = 6 ∨ i = 7 by omega) with rfl | rfl | rfl | rfl | rfl | rfl | rfl | rfl <;> exact ⟨_, rfl, rfl⟩
    rw [← hx2]
    exact hDm.2 i x hx1
  have hge1 : ∀ q, zAS ad q → s.heap.size ≤ q := fun q h => by
    obtain ⟨i, hi, rfl⟩ := h
    obtain ⟨x, hx1, hx2⟩ : ∃ x, (wS ad cI S0 0 0 0 0)[i]? = some x ∧ x.1 = ad i := by
      rcases (show i = 0 ∨ i = 1 ∨ i = 2 ∨ i = 3 ∨ i = 4 ∨ i = 5 ∨ i = 6 ∨ i = 7 ∨ i = 8 ∨ i = 9 ∨ i = 10 ∨ i = 11 ∨ i = 12 by omega) with rfl | rfl | rfl | rfl | rfl | rfl | rfl | rfl | rfl | rfl | rfl | rfl | rfl <;> exact ⟨_, rfl, rfl⟩
    rw [← hx2]
    exact hDs.2 i x hx1
  have hdis : ∀ q, zAM ae q → ¬ zAS ad q := fun q h h2 => by
    rcases hgm q h with ⟨k, e1, h3⟩ | h3
    · have hk : k < 1 := (List.getElem?_eq_some_iff.mp h3).1
      rw [show k = 0 by omega] at h3
      cases h3
      exact hne _ h2 rfl
    · exact absurd (hlt q h2) (Nat.not_lt.mpr h3)
  have hPs' : va_P (dC, dI) classes (wS ad cI S0 0 0 0 0) H1 := hPs.kept (fun k q hq => hk1 q.1 (hPs k q hq).lt (fun h => by
    have h5 : zAS ad q.1 := (zDS hj1 cI S0 0 0 0 0).2 k q hq
    rcases h with ⟨k2, e1, h3⟩ | h3
    · have hk : k2 < 1 := (List.getElem?_eq_some_iff.mp h3).1
      rw [show k2 = 0 by omega] at h3
      have h6 := congrArg Prod.fst (Option.some.inj h3)
      exact hne _ h5 h6.symm
    · exact absurd (hlt q.1 h5) (Nat.not_lt.mpr h3)))
  refine lv_astore_n (lv' := [(2, .ref (ae 0)), (1, .ref (ad 0)), (0, .ref b)]) hx hb d_L_law_15 rfl hl (by decide) rfl (fun ls hl => ?_)
  refine lv_iconst (v := zi 0) hx hb d_L_law_16 rfl ?_
  refine lv_istore_n (lv' := [(3, .int (zi 0)), (2, .ref (ae 0)), (1, .ref (ad 0)), (0, .ref b)]) hx hb d_L_law_17 rfl hl (by decide) rfl (fun ls hl => ?_)
  exact law_loop hL C0 ⟨hj1, hj2, hge1, fun q h => hF2 q (hgm q h), hdis, fun q h h2 => hdis q h2 h, hK, hN⟩ (L + 7) 0 H1 locs ls (by decide) (by omega) (by omega) ⟨S0, N0, 0, 0, 0, 0, 0, 0, 0, 0, RR0, ⟨by decide, by decide⟩, ⟨by decide, by decide⟩, ⟨by decide, by decide⟩, ⟨by decide, by decide⟩, ⟨by decide, by decide⟩, ⟨by decide, by decide⟩, ⟨by decide, by decide⟩, ⟨by decide, by decide⟩, hPs', hM⟩ hS (lv_sub hl [3, 2, 1, 0] rfl)
