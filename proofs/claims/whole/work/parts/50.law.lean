def R_law : String := "SightRowsLaw"
def lw_P (b : Addr) (xs : List Int32) (args : Array Value) (s : State) : Prop := args = #[.ref b] ∧ s.IntsAt b xs ∧ xs.length ≤ 3072 ∧ (Jvm.Cond.and given_1 narrow_1).before args s = true
def lw_Q (_ : Array Value) (s : State) (o : Outcome) (t : State) : Prop := o = .returned (some (.int 1)) ∧ Framed s o t [] 21 960
def lw_Z (below : List Frame) (a : Array Value) (s : State) : State → Prop := fun t => ∃ o, t.status = .running ∧ Ended t below o ∧ lw_Q a s o t
/-- the law's own end, with 1 on the stack, nothing written that was there before, its room as the claim has it -/
theorem lw_ret {p : Program} {l : Launch} {e : Env} {s : State} {m : MethodId} {below : List Frame} {meth : Method} {c : Code} {b : Nat} (hx : p.tables.exec = Jvm.exec) (hb : c.code = code) (hr : meth.sig.returnType = ret) (hlocks : meth.locks = false) {pc : Nat} {H : Heap} {ls : Array Slot} (hdg : decode code pc = .ok (.ireturn, 1)) : W p l e room_1 s m #[Value.ref b] below meth c H [] 21 960 (lw_Z below #[Value.ref b] s) (F0 m pc ls [.int 1]) := by
  intro T hT X
  obtain ⟨fs, hret, hrun, hended, hW, hframe⟩ := X.leave (v := some (.int 1)) (hlocks := hlocks) (fun h => by rw [hr] at h; cases h)
  have hmeth' : T.vm.method? m = some meth := X.method'
  refine ⟨T.setFrames fs, ?_, .returned (some (.int 1)), hrun, hended, rfl, ⟨_, rfl⟩, hW, hframe⟩
  jvm_step X.here [X.here.top, hx, hb, hdg, hmeth', hr, ret, narrow_b1]
  (try refine ⟨rfl, ?_⟩); (try refine ⟨rfl, ?_⟩)
  first | (intro acts; rw [hret _ acts rfl rfl rfl]) | rw [hret _ _ rfl rfl rfl]
  exact Steps.refl _
/-- what holds at the law's entry: the machine, the code, the tables' words (any of lw_tbl by 'hts w (by decide +kernel)'), the script of L ints xs at the cell b, what the Statement gives of the start (any of its parts by flat_of_before) -/
def lw_At (p : Program) (s : State) (m : MethodId) (meth : Method) (c : Code) (b L : Nat) (xs : Nat → Int32) : Prop :=
  p.tables.exec = Jvm.exec ∧ c.code = code ∧ meth.sig.returnType = ret ∧ c.maxLocals = 4 ∧ s.vm.findClass R_law = some m.cls ∧ (∀ w ∈ lw_tbl, w.before #[Value.ref b] s = true) ∧ va_X b L xs s s.heap ∧ b < s.heap.size ∧ meth.locks = false ∧ (Jvm.Cond.and given_1 narrow_1).before #[Value.ref b] s = true
theorem zkeep {D : va_G} {cl : List vw_C} {n1 n2 : Nat} {ad1 ad2 : Nat → Nat} {ws : va_W} {H H1 : Heap} (hD : va_D (zAd n2 ad2) ws) (hP : va_P D cl ws H) (hdis : ∀ q, zAd n2 ad2 q → ¬ zAd n1 ad1 q) (hk : ∀ q : Nat, q < H.size → ¬ zAd n1 ad1 q → H1[q]? = H[q]?) : va_P D cl ws H1 :=
  hP.kept (fun k q hq => hk q.1 (hP k q hq).lt (hdis q.1 (hD.2 k q hq)))
def zX (xs : Nat → Int32) : Int → Int := fun j => (xs j.toNat).toInt
theorem zX_b (xs : Nat → Int32) (j : Int) : zB (-2147483648) 2147483647 (zX xs j) := ⟨(zI_of _).1, by have := (zI_of (xs j.toNat)).2; unfold zX; omega⟩
section ZLAW
variable {p : Program} {l : Launch} {e : Env} {R : Room} {s : State} {m : MethodId} {args : Array Value} {below : List Frame} {meth : Method} {c : Code} {H : Heap} {locs : List Loc} {cells slots : Nat} {Q : State → Prop}
variable {cc : ByteArray} {pc : Nat} {ls : Array Slot} {rest : List Value} {A : Nat → Prop} {H0 : Heap}
theorem zr_sld (hx : p.tables.exec = Jvm.exec) (hb : c.code = cc) {b L : Nat} {xs : Nat → Int32} (hX : va_X b L xs s H0) (hbl : b < H0.size) (hbA : ¬ A b) (hS : va_S A H0 H locs) {i : Int} (h0 : 0 ≤ i) (h1 : i < (L : Int)) (hL : (L : Int) ≤ 2147483647) (hd : decode cc pc = .ok (.iaload, 1)) (k : W p l e R s m args below meth c H locs cells slots Q (F0 m (pc + 1) ls (.int (zi (zX xs i)) :: rest))) : W p l e R s m args below meth c H locs cells slots Q (F0 m pc ls (.int (zi i) :: .ref b :: rest)) :=
  va_sld hx hb hX hbl hbA hS (zp_in h0 h1 hL) hd (by
    rw [zp_cl h0 (by omega)]
    unfold zX at k
    rw [zi_of] at k
    exact k)
theorem zr_slen (hx : p.tables.exec = Jvm.exec) (hb : c.code = cc) {b L : Nat} {xs : Nat → Int32} (hX : va_X b L xs s H0) (hbl : b < H0.size) (hbA : ¬ A b) (hS : va_S A H0 H locs) (hd : decode cc pc = .ok (.arraylength, 1)) (k : W p l e R s m args below meth c H locs cells slots Q (F0 m (pc + 1) ls (.int (zi (L : Int)) :: rest))) : W p l e R s m args below meth c H locs cells slots Q (F0 m pc ls (.ref b :: rest)) :=
  va_slen hx hb hX hbl hbA hS hd (by rw [show Int32.ofNat L = zi (L : Int) from Int32.ofInt_eq_ofNat.symm]; exact k)
end ZLAW
section ZCL
variable {R rm : Room} {s : State} {args : Array Value} {own C : String} {index maxL mc ms : Nat} {y : MethodName} {bytes : ByteArray} {ret : Option FieldType}
theorem zlB (n : Nat) (ht : ∀ w ∈ lw_tbl, w.before args s = true) (hc : Cond.code y bytes maxL ret ∈ zT) (hini : Cond.initialized y.cls ∈ zT) (hl : Cond.methodLink own index y ∈ zT) (hrc : rm.cells = mc) (hrs : rm.slots = ms) (hd : zq y n) (hR : rm.frames + 1 ≤ R.frames ∧ 8 + (maxL + 11) + rm.locals ≤ R.locals) :
    CallB R s args own index y bytes maxL ret (Cond.code y bytes maxL ret :: zT) rm mc ms n :=
  callB_of n ht (zGl hc) rfl hrc hrs (ht _ (zT_in hini)) (ht _ (zT_in hl)) hd hR
theorem zlV (n : Nat) (ht : ∀ w ∈ lw_tbl, w.before args s = true) (hc : Cond.code y bytes maxL ret ∈ zT) (hini : Cond.initialized y.cls ∈ zT) (hl : Cond.methodLink own index y ∈ zT) (hi : Cond.instanceMethod y ∈ zT) (hse : Cond.selects C y y ∈ zT) (hrc : rm.cells = mc) (hrs : rm.slots = ms) (hd : zq y n) (hR : rm.frames + 1 ≤ R.frames ∧ 8 + (maxL + 11) + rm.locals ≤ R.locals) :
    CallW R s args own C index y bytes maxL ret (Cond.code y bytes maxL ret :: zT) rm mc ms n :=
  ⟨zlB n ht hc hini hl hrc hrs hd hR, ht _ (zT_in hi), ht _ (zT_in hse)⟩
end ZCL
theorem z_and (x : Int) : ∃ j : Nat, j < 32 ∧ zi x &&& zi 31 = nI j := pk_andE (zi x) 5 (by decide)
/-- the two worlds at the loop's head -/
def zI2 (dC : Nat → ClassId) (dI : Nat → Nat → Nat) (cI : ClassId) (ad ae : Nat → Nat) (s : State) (H : Heap) : Prop := ∃ (S N : Nat → Int → Int) (k0 k1 k2 k3 j0 j1 j2 j3 : Int), RR S N ∧ zB (-30000) 30000 k0 ∧ zB (-30000) 30000 k1 ∧ zB (-30000) 30000 k2 ∧ zB (-30000) 30000 k3 ∧ zB (-115000) 115000 j0 ∧ zB (-115000) 115000 j1 ∧ zB (-115000) 115000 j2 ∧ zB (-115000) 115000 j3 ∧ va_P (dC, dI) classes (wS ad cI S k0 k1 k2 k3) H ∧ va_P (dC, dI) classes (wM ae cI N j0 j1 j2 j3) H
/-- what stays throughout -/
def zG2 (dC : Nat → ClassId) (dI : Nat → Nat → Nat) (cI : ClassId) (ad ae : Nat → Nat) (s : State) : Prop := zJ 13 ad ∧ zJ 8 ae ∧ (∀ q, zAS ad q → s.heap.size ≤ q) ∧ (∀ q, zAM ae q → s.heap.size ≤ q) ∧ (∀ q, zAM ae q → ¬ zAS ad q) ∧ (∀ q, zAS ad q → ¬ zAM ae q) ∧ va_K (dC, dI) classes [(cI, .int)] s ∧ zN s
set_option maxHeartbeats 4000000 in
set_option maxRecDepth 100000 in
theorem law_station {p : Program} {l : Launch} {e : Env} {s : State} {m : MethodId} {below : List Frame} {meth : Method} {c : Code} {dC : Nat → ClassId} {dI : Nat → Nat → Nat} {cI : ClassId} {ad ae : Nat → Nat} {b L : Nat} {xs : Nat → Int32} (hL : L ≤ 3072) (C0 : lw_At p s m meth c b L xs) (G0 : zG2 dC dI cI ad ae s) (i : Int) (hi0 : 0 ≤ i) (hi1 : i + 6 ≤ (L : Int)) (nx : ∀ (H : Heap) (locs : List Loc) (ls : Array Slot), zI2 dC dI cI ad ae s H → va_S (fun q : Nat => s.heap.size ≤ q) s.heap H locs → lv_has ls 4 [(0, .ref b), (1, .ref (ad 0)), (2, .ref (ae 0)), (3, .int (zi i))] → W p l e room_1 s m #[Value.ref b] below meth c H locs 21 960 (lw_Z below #[Value.ref b] s) (F0 m 801 ls [])) (H : Heap) (locs : List Loc) (ls : Array Slot) (hI2 : zI2 dC dI cI ad ae s H) (hS : va_S (fun q : Nat => s.heap.size ≤ q) s.heap H locs) (hl : lv_has ls 4 [(0, .ref b), (1, .ref (ad 0)), (2, .ref (ae 0)), (3, .int (zi i))]) : W p l e room_1 s m #[Value.ref b] below meth c H locs 21 960 (lw_Z below #[Value.ref b] s) (F0 m 116 ls []) := by
  obtain ⟨hx, hb, hr, hml, hown, hts, hX, hbl, hlocks, hgv⟩ := C0
  have hw : ∀ w9 ∈ zT, w9.before #[Value.ref b] s = true := fun w9 h => hts w9 (zT_in h)
  obtain ⟨hj1, hj2, hge1, hge2, hdis, hdis2, hK, hN⟩ := G0
  have hbA : ¬ (fun q : Nat => s.heap.size ≤ q) b := Nat.not_le.mpr hbl
  obtain ⟨S, N, k0, k1, k2, k3, j0, j1, j2, j3, hR, hk0, hk1, hk2, hk3, hj0, hj1', hj2', hj3, hP, hM⟩ := hI2
  have hIS := hR.1
  have hIN := hR.2.1
  refine lv_aload_n hx hb d_L_law_116 rfl (lv_at hl 1 rfl) ?_
  refine lv_aload_n hx hb d_L_law_117 rfl (lv_at hl 0 rfl) ?_
  refine lv_iload_n hx hb d_L_law_118 rfl (lv_at hl 3 rfl) ?_
  refine lv_iconst (v := zi 1) hx hb d_L_law_119 rfl ?_
  refine zr_iadd hx hb d_L_law_120 ?_
  refine zr_sld hx hb hX hbl hbA hS (i := i + 1) (by omega) (by omega) (by omega) d_L_law_121 ?_
  refine lv_aload_n hx hb d_L_law_122 rfl (lv_at hl 0 rfl) ?_
  refine lv_iload_n hx hb d_L_law_123 rfl (lv_at hl 3 rfl) ?_
  refine lv_iconst (v := zi 2) hx hb d_L_law_124 rfl ?_
  refine zr_iadd hx hb d_L_law_125 ?_
  refine zr_sld hx hb hX hbl hbA hS (i := i + 2) (by omega) (by omega) (by omega) d_L_law_126 ?_
  refine lv_aload_n hx hb d_L_law_127 rfl (lv_at hl 0 rfl) ?_
  refine lv_iload_n hx hb d_L_law_128 rfl (lv_at hl 3 rfl) ?_
  refine lv_iconst (v := zi 3) hx hb d_L_law_129 rfl ?_
  refine zr_iadd hx hb d_L_law_130 ?_
  refine zr_sld hx hb hX hbl hbA hS (i := i + 3) (by omega) (by omega) (by omega) d_L_law_131 ?_
  refine zc_w (va_runV (As := [.int (zi (zX xs (i + 1))), .int (zi (zX xs (i + 2))), .int (zi (zX xs (i + 3)))]) (rest := []) ⟨hx, hb, hml, hown, hts⟩ (k_S_station l dC dI ad cI S k0 k1 k2 k3 hIS hj1 (zX xs (i + 1)) (zX xs (i + 2)) (zX xs (i + 3)) (zB.w (zX_b xs (i + 1)) (by decide) (by decide)) (zB.w (zX_b xs (i + 2)) (by decide) (by decide)) (zB.w (zX_b xs (i + 3)) (by decide) (by decide))) (zlV 3 hts m_47 m_1 m_44 m_45 m_46 rfl rfl q_S_station ⟨Nat.le_of_ble_eq_true rfl, Nat.le_of_ble_eq_true rfl⟩) (zpS0 hP hK hN [.int (zi (zX xs (i + 1))), .int (zi (zX xs (i + 2))), .int (zi (zX xs (i + 3)))]) rfl rfl hl.1 rfl (lv_room (Nat.le_of_ble_eq_true rfl)) d_L_law_132 ⟨Nat.le_of_ble_eq_true rfl, Nat.le_of_ble_eq_true rfl⟩) hS (fun q _ h => hge1 q h) (fun q h => hge1 q h) (fun H1 locs hQ hz1 hk9 hS => ?_)
  have hM' := zkeep (zDM hj2 cI N j0 j1 j2 j3) hM hdis hk9
  clear hP hM
  have hP := hQ
  have hM := hM'
  clear hQ hM' hk9 hz1
  generalize H1 = H at hP hM hS ⊢
  refine lv_aload_n hx hb d_L_law_135 rfl (lv_at hl 2 rfl) ?_
  refine lv_aload_n hx hb d_L_law_136 rfl (lv_at hl 0 rfl) ?_
  refine lv_iload_n hx hb d_L_law_137 rfl (lv_at hl 3 rfl) ?_
  refine lv_iconst (v := zi 1) hx hb d_L_law_138 rfl ?_
  refine zr_iadd hx hb d_L_law_139 ?_
  refine zr_sld hx hb hX hbl hbA hS (i := i + 1) (by omega) (by omega) (by omega) d_L_law_140 ?_
  refine lv_aload_n hx hb d_L_law_141 rfl (lv_at hl 0 rfl) ?_
  refine lv_iload_n hx hb d_L_law_142 rfl (lv_at hl 3 rfl) ?_
  refine lv_iconst (v := zi 2) hx hb d_L_law_143 rfl ?_
  refine zr_iadd hx hb d_L_law_144 ?_
  refine zr_sld hx hb hX hbl hbA hS (i := i + 2) (by omega) (by omega) (by omega) d_L_law_145 ?_
  refine lv_aload_n hx hb d_L_law_146 rfl (lv_at hl 0 rfl) ?_
  refine lv_iload_n hx hb d_L_law_147 rfl (lv_at hl 3 rfl) ?_
  refine lv_iconst (v := zi 3) hx hb d_L_law_148 rfl ?_
  refine zr_iadd hx hb d_L_law_149 ?_
  refine zr_sld hx hb hX hbl hbA hS (i := i + 3) (by omega) (by omega) (by omega) d_L_law_150 ?_
  refine zc_w (va_runV (As := [.int (zi (zX xs (i + 1))), .int (zi (zX xs (i + 2))), .int (zi (zX xs (i + 3)))]) (rest := [.int (zi ((f_S_station S (zX xs (i + 1)) (zX xs (i + 2)) (zX xs (i + 3))).1))]) ⟨hx, hb, hml, hown, hts⟩ (k_M_station l dC dI ae cI N j0 j1 j2 j3 hIN hj2 (zX xs (i + 1)) (zX xs (i + 2)) (zX xs (i + 3)) (zB.w (zX_b xs (i + 1)) (by decide) (by decide)) (zB.w (zX_b xs (i + 2)) (by decide) (by decide)) (zB.w (zX_b xs (i + 3)) (by decide) (by decide))) (zlV 3 hts m_246 m_3 m_243 m_244 m_245 rfl rfl q_M_station ⟨Nat.le_of_ble_eq_true rfl, Nat.le_of_ble_eq_true rfl⟩) (zpM0 hM hK [.int (zi (zX xs (i + 1))), .int (zi (zX xs (i + 2))), .int (zi (zX xs (i + 3)))]) rfl rfl hl.1 rfl (lv_room (Nat.le_of_ble_eq_true rfl)) d_L_law_151 ⟨Nat.le_of_ble_eq_true rfl, Nat.le_of_ble_eq_true rfl⟩) hS (fun q _ h => hge2 q h) (fun q h => hge2 q h) (fun H1 locs hQ hz1 hk9 hS => ?_)
  have hP' := zkeep (zDS hj1 cI ((f_S_station S (zX xs (i + 1)) (zX xs (i + 2)) (zX xs (i + 3))).2) k0 k1 k2 k3) hP hdis2 hk9
  clear hP hM
  have hM := hQ
  have hP := hP'
  clear hQ hP' hk9 hz1
  generalize H1 = H at hP hM hS ⊢
  have hRR := (E_station hR (zX xs (i + 1)) (zX xs (i + 2)) (zX xs (i + 3)) (zB.w (zX_b xs (i + 1)) (by decide) (by decide)) (zB.w (zX_b xs (i + 2)) (by decide) (by decide)) (zB.w (zX_b xs (i + 3)) (by decide) (by decide))).2
  refine lv_icmp_eq (tgt := 801) hx hb d_L_law_154 (by decide) (fun _ => ?_) (fun c9 => absurd (by rw [(E_station hR (zX xs (i + 1)) (zX xs (i + 2)) (zX xs (i + 3)) (zB.w (zX_b xs (i + 1)) (by decide) (by decide)) (zB.w (zX_b xs (i + 2)) (by decide) (by decide)) (zB.w (zX_b xs (i + 3)) (by decide) (by decide))).1]) c9)
  exact nx _ _ ls ⟨(f_S_station S (zX xs (i + 1)) (zX xs (i + 2)) (zX xs (i + 3))).2, (f_M_station N (zX xs (i + 1)) (zX xs (i + 2)) (zX xs (i + 3))).2, k0, k1, k2, k3, j0, j1, j2, j3, hRR, hk0, hk1, hk2, hk3, hj0, hj1', hj2', hj3, hP, hM⟩ hS hl
set_option maxHeartbeats 4000000 in
set_option maxRecDepth 100000 in
theorem law_heights {p : Program} {l : Launch} {e : Env} {s : State} {m : MethodId} {below : List Frame} {meth : Method} {c : Code} {dC : Nat → ClassId} {dI : Nat → Nat → Nat} {cI : ClassId} {ad ae : Nat → Nat} {b L : Nat} {xs : Nat → Int32} (hL : L ≤ 3072) (C0 : lw_At p s m meth c b L xs) (G0 : zG2 dC dI cI ad ae s) (i : Int) (hi0 : 0 ≤ i) (hi1 : i + 6 ≤ (L : Int)) (nx : ∀ (H : Heap) (locs : List Loc) (ls : Array Slot), zI2 dC dI cI ad ae s H → va_S (fun q : Nat => s.heap.size ≤ q) s.heap H locs → lv_has ls 4 [(0, .ref b), (1, .ref (ad 0)), (2, .ref (ae 0)), (3, .int (zi i))] → W p l e room_1 s m #[Value.ref b] below meth c H locs 21 960 (lw_Z below #[Value.ref b] s) (F0 m 801 ls [])) (H : Heap) (locs : List Loc) (ls : Array Slot) (hI2 : zI2 dC dI cI ad ae s H) (hS : va_S (fun q : Nat => s.heap.size ≤ q) s.heap H locs) (hl : lv_has ls 4 [(0, .ref b), (1, .ref (ad 0)), (2, .ref (ae 0)), (3, .int (zi i))]) : W p l e room_1 s m #[Value.ref b] below meth c H locs 21 960 (lw_Z below #[Value.ref b] s) (F0 m 159 ls []) := by
  obtain ⟨hx, hb, hr, hml, hown, hts, hX, hbl, hlocks, hgv⟩ := C0
  have hw : ∀ w9 ∈ zT, w9.before #[Value.ref b] s = true := fun w9 h => hts w9 (zT_in h)
  obtain ⟨hj1, hj2, hge1, hge2, hdis, hdis2, hK, hN⟩ := G0
  have hbA : ¬ (fun q : Nat => s.heap.size ≤ q) b := Nat.not_le.mpr hbl
  obtain ⟨S, N, k0, k1, k2, k3, j0, j1, j2, j3, hR, hk0, hk1, hk2, hk3, hj0, hj1', hj2', hj3, hP, hM⟩ := hI2
  have hIS := hR.1
  have hIN := hR.2.1
  refine lv_aload_n hx hb d_L_law_159 rfl (lv_at hl 1 rfl) ?_
  refine lv_aload_n hx hb d_L_law_160 rfl (lv_at hl 0 rfl) ?_
  refine lv_iload_n hx hb d_L_law_161 rfl (lv_at hl 3 rfl) ?_
  refine lv_iconst (v := zi 1) hx hb d_L_law_162 rfl ?_
  refine zr_iadd hx hb d_L_law_163 ?_
  refine zr_sld hx hb hX hbl hbA hS (i := i + 1) (by omega) (by omega) (by omega) d_L_law_164 ?_
  refine lv_aload_n hx hb d_L_law_165 rfl (lv_at hl 0 rfl) ?_
  refine lv_iload_n hx hb d_L_law_166 rfl (lv_at hl 3 rfl) ?_
  refine lv_iconst (v := zi 2) hx hb d_L_law_167 rfl ?_
  refine zr_iadd hx hb d_L_law_168 ?_
  refine zr_sld hx hb hX hbl hbA hS (i := i + 2) (by omega) (by omega) (by omega) d_L_law_169 ?_
  refine zc_w (va_runV (As := [.int (zi (zX xs (i + 1))), .int (zi (zX xs (i + 2)))]) (rest := []) ⟨hx, hb, hml, hown, hts⟩ (k_S_heights l dC dI ad cI S k0 k1 k2 k3 hIS hj1 (zX xs (i + 1)) (zX xs (i + 2)) (zB.w (zX_b xs (i + 1)) (by decide) (by decide)) (zB.w (zX_b xs (i + 2)) (by decide) (by decide))) (zlV 2 hts m_77 m_1 m_74 m_75 m_76 rfl rfl q_S_heights ⟨Nat.le_of_ble_eq_true rfl, Nat.le_of_ble_eq_true rfl⟩) (zpS0 hP hK hN [.int (zi (zX xs (i + 1))), .int (zi (zX xs (i + 2)))]) rfl rfl hl.1 rfl (lv_room (Nat.le_of_ble_eq_true rfl)) d_L_law_170 ⟨Nat.le_of_ble_eq_true rfl, Nat.le_of_ble_eq_true rfl⟩) hS (fun q _ h => hge1 q h) (fun q h => hge1 q h) (fun H1 locs hQ hz1 hk9 hS => ?_)
  have hM' := zkeep (zDM hj2 cI N j0 j1 j2 j3) hM hdis hk9
  clear hP hM
  have hP := hQ
  have hM := hM'
  clear hQ hM' hk9 hz1
  generalize H1 = H at hP hM hS ⊢
  refine lv_aload_n hx hb d_L_law_173 rfl (lv_at hl 2 rfl) ?_
  refine lv_aload_n hx hb d_L_law_174 rfl (lv_at hl 0 rfl) ?_
  refine lv_iload_n hx hb d_L_law_175 rfl (lv_at hl 3 rfl) ?_
  refine lv_iconst (v := zi 1) hx hb d_L_law_176 rfl ?_
  refine zr_iadd hx hb d_L_law_177 ?_
  refine zr_sld hx hb hX hbl hbA hS (i := i + 1) (by omega) (by omega) (by omega) d_L_law_178 ?_
  refine lv_aload_n hx hb d_L_law_179 rfl (lv_at hl 0 rfl) ?_
  refine lv_iload_n hx hb d_L_law_180 rfl (lv_at hl 3 rfl) ?_
  refine lv_iconst (v := zi 2) hx hb d_L_law_181 rfl ?_
  refine zr_iadd hx hb d_L_law_182 ?_
  refine zr_sld hx hb hX hbl hbA hS (i := i + 2) (by omega) (by omega) (by omega) d_L_law_183 ?_
  refine zc_w (va_runV (As := [.int (zi (zX xs (i + 1))), .int (zi (zX xs (i + 2)))]) (rest := [.int (zi ((f_S_heights S (zX xs (i + 1)) (zX xs (i + 2))).1))]) ⟨hx, hb, hml, hown, hts⟩ (k_M_heights l dC dI ae cI N j0 j1 j2 j3 hIN hj2 (zX xs (i + 1)) (zX xs (i + 2)) (zB.w (zX_b xs (i + 1)) (by decide) (by decide)) (zB.w (zX_b xs (i + 2)) (by decide) (by decide))) (zlV 2 hts m_266 m_3 m_263 m_264 m_265 rfl rfl q_M_heights ⟨Nat.le_of_ble_eq_true rfl, Nat.le_of_ble_eq_true rfl⟩) (zpM0 hM hK [.int (zi (zX xs (i + 1))), .int (zi (zX xs (i + 2)))]) rfl rfl hl.1 rfl (lv_room (Nat.le_of_ble_eq_true rfl)) d_L_law_184 ⟨Nat.le_of_ble_eq_true rfl, Nat.le_of_ble_eq_true rfl⟩) hS (fun q _ h => hge2 q h) (fun q h => hge2 q h) (fun H1 locs hQ hz1 hk9 hS => ?_)
  have hP' := zkeep (zDS hj1 cI ((f_S_heights S (zX xs (i + 1)) (zX xs (i + 2))).2) k0 k1 k2 k3) hP hdis2 hk9
  clear hP hM
  have hM := hQ
  have hP := hP'
  clear hQ hP' hk9 hz1
  generalize H1 = H at hP hM hS ⊢
  have hRR := (E_heights hR (zX xs (i + 1)) (zX xs (i + 2)) (zB.w (zX_b xs (i + 1)) (by decide) (by decide)) (zB.w (zX_b xs (i + 2)) (by decide) (by decide))).2
  refine lv_icmp_eq (tgt := 801) hx hb d_L_law_187 (by decide) (fun _ => ?_) (fun c9 => absurd (by rw [(E_heights hR (zX xs (i + 1)) (zX xs (i + 2)) (zB.w (zX_b xs (i + 1)) (by decide) (by decide)) (zB.w (zX_b xs (i + 2)) (by decide) (by decide))).1]) c9)
  exact nx _ _ ls ⟨(f_S_heights S (zX xs (i + 1)) (zX xs (i + 2))).2, (f_M_heights N (zX xs (i + 1)) (zX xs (i + 2))).2, k0, k1, k2, k3, j0, j1, j2, j3, hRR, hk0, hk1, hk2, hk3, hj0, hj1', hj2', hj3, hP, hM⟩ hS hl
set_option maxHeartbeats 4000000 in
set_option maxRecDepth 100000 in
theorem law_clear {p : Program} {l : Launch} {e : Env} {s : State} {m : MethodId} {below : List Frame} {meth : Method} {c : Code} {dC : Nat → ClassId} {dI : Nat → Nat → Nat} {cI : ClassId} {ad ae : Nat → Nat} {b L : Nat} {xs : Nat → Int32} (hL : L ≤ 3072) (C0 : lw_At p s m meth c b L xs) (G0 : zG2 dC dI cI ad ae s) (i : Int) (hi0 : 0 ≤ i) (hi1 : i + 6 ≤ (L : Int)) (nx : ∀ (H : Heap) (locs : List Loc) (ls : Array Slot), zI2 dC dI cI ad ae s H → va_S (fun q : Nat => s.heap.size ≤ q) s.heap H locs → lv_has ls 4 [(0, .ref b), (1, .ref (ad 0)), (2, .ref (ae 0)), (3, .int (zi i))] → W p l e room_1 s m #[Value.ref b] below meth c H locs 21 960 (lw_Z below #[Value.ref b] s) (F0 m 801 ls [])) (H : Heap) (locs : List Loc) (ls : Array Slot) (hI2 : zI2 dC dI cI ad ae s H) (hS : va_S (fun q : Nat => s.heap.size ≤ q) s.heap H locs) (hl : lv_has ls 4 [(0, .ref b), (1, .ref (ad 0)), (2, .ref (ae 0)), (3, .int (zi i))]) : W p l e room_1 s m #[Value.ref b] below meth c H locs 21 960 (lw_Z below #[Value.ref b] s) (F0 m 192 ls []) := by
  obtain ⟨hx, hb, hr, hml, hown, hts, hX, hbl, hlocks, hgv⟩ := C0
  have hw : ∀ w9 ∈ zT, w9.before #[Value.ref b] s = true := fun w9 h => hts w9 (zT_in h)
  obtain ⟨hj1, hj2, hge1, hge2, hdis, hdis2, hK, hN⟩ := G0
  have hbA : ¬ (fun q : Nat => s.heap.size ≤ q) b := Nat.not_le.mpr hbl
  obtain ⟨S, N, k0, k1, k2, k3, j0, j1, j2, j3, hR, hk0, hk1, hk2, hk3, hj0, hj1', hj2', hj3, hP, hM⟩ := hI2
  have hIS := hR.1
  have hIN := hR.2.1
  refine lv_aload_n hx hb d_L_law_192 rfl (lv_at hl 1 rfl) ?_
  refine lv_aload_n hx hb d_L_law_193 rfl (lv_at hl 0 rfl) ?_
  refine lv_iload_n hx hb d_L_law_194 rfl (lv_at hl 3 rfl) ?_
  refine lv_iconst (v := zi 1) hx hb d_L_law_195 rfl ?_
  refine zr_iadd hx hb d_L_law_196 ?_
  refine zr_sld hx hb hX hbl hbA hS (i := i + 1) (by omega) (by omega) (by omega) d_L_law_197 ?_
  refine lv_aload_n hx hb d_L_law_198 rfl (lv_at hl 0 rfl) ?_
  refine lv_iload_n hx hb d_L_law_199 rfl (lv_at hl 3 rfl) ?_
  refine lv_iconst (v := zi 2) hx hb d_L_law_200 rfl ?_
  refine zr_iadd hx hb d_L_law_201 ?_
  refine zr_sld hx hb hX hbl hbA hS (i := i + 2) (by omega) (by omega) (by omega) d_L_law_202 ?_
  refine lv_aload_n hx hb d_L_law_203 rfl (lv_at hl 0 rfl) ?_
  refine lv_iload_n hx hb d_L_law_204 rfl (lv_at hl 3 rfl) ?_
  refine lv_iconst (v := zi 3) hx hb d_L_law_205 rfl ?_
  refine zr_iadd hx hb d_L_law_206 ?_
  refine zr_sld hx hb hX hbl hbA hS (i := i + 3) (by omega) (by omega) (by omega) d_L_law_207 ?_
  refine zc_w (va_runV (As := [.int (zi (zX xs (i + 1))), .int (zi (zX xs (i + 2))), .int (zi (zX xs (i + 3)))]) (rest := []) ⟨hx, hb, hml, hown, hts⟩ (k_S_clear l dC dI ad cI S k0 k1 k2 k3 hIS hj1 (zX xs (i + 1)) (zX xs (i + 2)) (zX xs (i + 3)) (zB.w (zX_b xs (i + 1)) (by decide) (by decide)) (zB.w (zX_b xs (i + 2)) (by decide) (by decide)) (zB.w (zX_b xs (i + 3)) (by decide) (by decide))) (zlV 3 hts m_81 m_1 m_78 m_79 m_80 rfl rfl q_S_clear ⟨Nat.le_of_ble_eq_true rfl, Nat.le_of_ble_eq_true rfl⟩) (zpS0 hP hK hN [.int (zi (zX xs (i + 1))), .int (zi (zX xs (i + 2))), .int (zi (zX xs (i + 3)))]) rfl rfl hl.1 rfl (lv_room (Nat.le_of_ble_eq_true rfl)) d_L_law_208 ⟨Nat.le_of_ble_eq_true rfl, Nat.le_of_ble_eq_true rfl⟩) hS (fun q _ h => hge1 q h) (fun q h => hge1 q h) (fun H1 locs hQ hz1 hk9 hS => ?_)
  have hM' := zkeep (zDM hj2 cI N j0 j1 j2 j3) hM hdis hk9
  clear hP hM
  have hP := hQ
  have hM := hM'
  clear hQ hM' hk9 hz1
  generalize H1 = H at hP hM hS ⊢
  refine lv_aload_n hx hb d_L_law_211 rfl (lv_at hl 2 rfl) ?_
  refine lv_aload_n hx hb d_L_law_212 rfl (lv_at hl 0 rfl) ?_
  refine lv_iload_n hx hb d_L_law_213 rfl (lv_at hl 3 rfl) ?_
  refine lv_iconst (v := zi 1) hx hb d_L_law_214 rfl ?_
  refine zr_iadd hx hb d_L_law_215 ?_
  refine zr_sld hx hb hX hbl hbA hS (i := i + 1) (by omega) (by omega) (by omega) d_L_law_216 ?_
  refine lv_aload_n hx hb d_L_law_217 rfl (lv_at hl 0 rfl) ?_
  refine lv_iload_n hx hb d_L_law_218 rfl (lv_at hl 3 rfl) ?_
  refine lv_iconst (v := zi 2) hx hb d_L_law_219 rfl ?_
  refine zr_iadd hx hb d_L_law_220 ?_
  refine zr_sld hx hb hX hbl hbA hS (i := i + 2) (by omega) (by omega) (by omega) d_L_law_221 ?_
  refine lv_aload_n hx hb d_L_law_222 rfl (lv_at hl 0 rfl) ?_
  refine lv_iload_n hx hb d_L_law_223 rfl (lv_at hl 3 rfl) ?_
  refine lv_iconst (v := zi 3) hx hb d_L_law_224 rfl ?_
  refine zr_iadd hx hb d_L_law_225 ?_
  refine zr_sld hx hb hX hbl hbA hS (i := i + 3) (by omega) (by omega) (by omega) d_L_law_226 ?_
  refine zc_w (va_runV (As := [.int (zi (zX xs (i + 1))), .int (zi (zX xs (i + 2))), .int (zi (zX xs (i + 3)))]) (rest := [.int (zi ((f_S_clear S (zX xs (i + 1)) (zX xs (i + 2)) (zX xs (i + 3))).1))]) ⟨hx, hb, hml, hown, hts⟩ (k_M_clear l dC dI ae cI N j0 j1 j2 j3 hIN hj2 (zX xs (i + 1)) (zX xs (i + 2)) (zX xs (i + 3)) (zB.w (zX_b xs (i + 1)) (by decide) (by decide)) (zB.w (zX_b xs (i + 2)) (by decide) (by decide)) (zB.w (zX_b xs (i + 3)) (by decide) (by decide))) (zlV 3 hts m_270 m_3 m_267 m_268 m_269 rfl rfl q_M_clear ⟨Nat.le_of_ble_eq_true rfl, Nat.le_of_ble_eq_true rfl⟩) (zpM0 hM hK [.int (zi (zX xs (i + 1))), .int (zi (zX xs (i + 2))), .int (zi (zX xs (i + 3)))]) rfl rfl hl.1 rfl (lv_room (Nat.le_of_ble_eq_true rfl)) d_L_law_227 ⟨Nat.le_of_ble_eq_true rfl, Nat.le_of_ble_eq_true rfl⟩) hS (fun q _ h => hge2 q h) (fun q h => hge2 q h) (fun H1 locs hQ hz1 hk9 hS => ?_)
  have hP' := zkeep (zDS hj1 cI ((f_S_clear S (zX xs (i + 1)) (zX xs (i + 2)) (zX xs (i + 3))).2) k0 k1 k2 k3) hP hdis2 hk9
  clear hP hM
  have hM := hQ
  have hP := hP'
  clear hQ hP' hk9 hz1
  generalize H1 = H at hP hM hS ⊢
  have hRR := (E_clear hR (zX xs (i + 1)) (zX xs (i + 2)) (zX xs (i + 3)) (zB.w (zX_b xs (i + 1)) (by decide) (by decide)) (zB.w (zX_b xs (i + 2)) (by decide) (by decide)) (zB.w (zX_b xs (i + 3)) (by decide) (by decide))).2
  refine lv_icmp_eq (tgt := 801) hx hb d_L_law_230 (by decide) (fun _ => ?_) (fun c9 => absurd (by rw [(E_clear hR (zX xs (i + 1)) (zX xs (i + 2)) (zX xs (i + 3)) (zB.w (zX_b xs (i + 1)) (by decide) (by decide)) (zB.w (zX_b xs (i + 2)) (by decide) (by decide)) (zB.w (zX_b xs (i + 3)) (by decide) (by decide))).1]) c9)
  exact nx _ _ ls ⟨(f_S_clear S (zX xs (i + 1)) (zX xs (i + 2)) (zX xs (i + 3))).2, (f_M_clear N (zX xs (i + 1)) (zX xs (i + 2)) (zX xs (i + 3))).2, k0, k1, k2, k3, j0, j1, j2, j3, hRR, hk0, hk1, hk2, hk3, hj0, hj1', hj2', hj3, hP, hM⟩ hS hl
set_option maxHeartbeats 4000000 in
set_option maxRecDepth 100000 in
theorem law_box {p : Program} {l : Launch} {e : Env} {s : State} {m : MethodId} {below : List Frame} {meth : Method} {c : Code} {dC : Nat → ClassId} {dI : Nat → Nat → Nat} {cI : ClassId} {ad ae : Nat → Nat} {b L : Nat} {xs : Nat → Int32} (hL : L ≤ 3072) (C0 : lw_At p s m meth c b L xs) (G0 : zG2 dC dI cI ad ae s) (i : Int) (hi0 : 0 ≤ i) (hi1 : i + 6 ≤ (L : Int)) (nx : ∀ (H : Heap) (locs : List Loc) (ls : Array Slot), zI2 dC dI cI ad ae s H → va_S (fun q : Nat => s.heap.size ≤ q) s.heap H locs → lv_has ls 4 [(0, .ref b), (1, .ref (ad 0)), (2, .ref (ae 0)), (3, .int (zi i))] → W p l e room_1 s m #[Value.ref b] below meth c H locs 21 960 (lw_Z below #[Value.ref b] s) (F0 m 801 ls [])) (H : Heap) (locs : List Loc) (ls : Array Slot) (hI2 : zI2 dC dI cI ad ae s H) (hS : va_S (fun q : Nat => s.heap.size ≤ q) s.heap H locs) (hl : lv_has ls 4 [(0, .ref b), (1, .ref (ad 0)), (2, .ref (ae 0)), (3, .int (zi i))]) : W p l e room_1 s m #[Value.ref b] below meth c H locs 21 960 (lw_Z below #[Value.ref b] s) (F0 m 235 ls []) := by
  obtain ⟨hx, hb, hr, hml, hown, hts, hX, hbl, hlocks, hgv⟩ := C0
  have hw : ∀ w9 ∈ zT, w9.before #[Value.ref b] s = true := fun w9 h => hts w9 (zT_in h)
  obtain ⟨hj1, hj2, hge1, hge2, hdis, hdis2, hK, hN⟩ := G0
  have hbA : ¬ (fun q : Nat => s.heap.size ≤ q) b := Nat.not_le.mpr hbl
  obtain ⟨S, N, k0, k1, k2, k3, j0, j1, j2, j3, hR, hk0, hk1, hk2, hk3, hj0, hj1', hj2', hj3, hP, hM⟩ := hI2
  have hIS := hR.1
  have hIN := hR.2.1
  refine lv_aload_n hx hb d_L_law_235 rfl (lv_at hl 1 rfl) ?_
  refine lv_aload_n hx hb d_L_law_236 rfl (lv_at hl 0 rfl) ?_
  refine lv_iload_n hx hb d_L_law_237 rfl (lv_at hl 3 rfl) ?_
  refine lv_iconst (v := zi 1) hx hb d_L_law_238 rfl ?_
  refine zr_iadd hx hb d_L_law_239 ?_
  refine zr_sld hx hb hX hbl hbA hS (i := i + 1) (by omega) (by omega) (by omega) d_L_law_240 ?_
  refine lv_aload_n hx hb d_L_law_241 rfl (lv_at hl 0 rfl) ?_
  refine lv_iload_n hx hb d_L_law_242 rfl (lv_at hl 3 rfl) ?_
  refine lv_iconst (v := zi 2) hx hb d_L_law_243 rfl ?_
  refine zr_iadd hx hb d_L_law_244 ?_
  refine zr_sld hx hb hX hbl hbA hS (i := i + 2) (by omega) (by omega) (by omega) d_L_law_245 ?_
  refine lv_aload_n hx hb d_L_law_246 rfl (lv_at hl 0 rfl) ?_
  refine lv_iload_n hx hb d_L_law_247 rfl (lv_at hl 3 rfl) ?_
  refine lv_iconst (v := zi 3) hx hb d_L_law_248 rfl ?_
  refine zr_iadd hx hb d_L_law_249 ?_
  refine zr_sld hx hb hX hbl hbA hS (i := i + 3) (by omega) (by omega) (by omega) d_L_law_250 ?_
  refine lv_aload_n hx hb d_L_law_251 rfl (lv_at hl 0 rfl) ?_
  refine lv_iload_n hx hb d_L_law_252 rfl (lv_at hl 3 rfl) ?_
  refine lv_iconst (v := zi 4) hx hb d_L_law_253 rfl ?_
  refine zr_iadd hx hb d_L_law_254 ?_
  refine zr_sld hx hb hX hbl hbA hS (i := i + 4) (by omega) (by omega) (by omega) d_L_law_255 ?_
  refine lv_aload_n hx hb d_L_law_256 rfl (lv_at hl 0 rfl) ?_
  refine lv_iload_n hx hb d_L_law_257 rfl (lv_at hl 3 rfl) ?_
  refine lv_iconst (v := zi 5) hx hb d_L_law_258 rfl ?_
  refine zr_iadd hx hb d_L_law_259 ?_
  refine zr_sld hx hb hX hbl hbA hS (i := i + 5) (by omega) (by omega) (by omega) d_L_law_260 ?_
  refine zc_w (va_runV (As := [.int (zi (zX xs (i + 1))), .int (zi (zX xs (i + 2))), .int (zi (zX xs (i + 3))), .int (zi (zX xs (i + 4))), .int (zi (zX xs (i + 5)))]) (rest := []) ⟨hx, hb, hml, hown, hts⟩ (k_S_box l dC dI ad cI S k0 k1 k2 k3 hIS hj1 (zX xs (i + 1)) (zX xs (i + 2)) (zX xs (i + 3)) (zX xs (i + 4)) (zX xs (i + 5)) (zB.w (zX_b xs (i + 1)) (by decide) (by decide)) (zB.w (zX_b xs (i + 2)) (by decide) (by decide)) (zB.w (zX_b xs (i + 3)) (by decide) (by decide)) (zB.w (zX_b xs (i + 4)) (by decide) (by decide)) (zB.w (zX_b xs (i + 5)) (by decide) (by decide))) (zlV 5 hts m_91 m_1 m_88 m_89 m_90 rfl rfl q_S_box ⟨Nat.le_of_ble_eq_true rfl, Nat.le_of_ble_eq_true rfl⟩) (zpS0 hP hK hN [.int (zi (zX xs (i + 1))), .int (zi (zX xs (i + 2))), .int (zi (zX xs (i + 3))), .int (zi (zX xs (i + 4))), .int (zi (zX xs (i + 5)))]) rfl rfl hl.1 rfl (lv_room (Nat.le_of_ble_eq_true rfl)) d_L_law_261 ⟨Nat.le_of_ble_eq_true rfl, Nat.le_of_ble_eq_true rfl⟩) hS (fun q _ h => hge1 q h) (fun q h => hge1 q h) (fun H1 locs hQ hz1 hk9 hS => ?_)
  have hM' := zkeep (zDM hj2 cI N j0 j1 j2 j3) hM hdis hk9
  clear hP hM
  have hP := hQ
  have hM := hM'
  clear hQ hM' hk9 hz1
  generalize H1 = H at hP hM hS ⊢
  refine lv_aload_n hx hb d_L_law_264 rfl (lv_at hl 2 rfl) ?_
  refine lv_aload_n hx hb d_L_law_265 rfl (lv_at hl 0 rfl) ?_
  refine lv_iload_n hx hb d_L_law_266 rfl (lv_at hl 3 rfl) ?_
  refine lv_iconst (v := zi 1) hx hb d_L_law_267 rfl ?_
  refine zr_iadd hx hb d_L_law_268 ?_
  refine zr_sld hx hb hX hbl hbA hS (i := i + 1) (by omega) (by omega) (by omega) d_L_law_269 ?_
  refine lv_aload_n hx hb d_L_law_270 rfl (lv_at hl 0 rfl) ?_
  refine lv_iload_n hx hb d_L_law_271 rfl (lv_at hl 3 rfl) ?_
  refine lv_iconst (v := zi 2) hx hb d_L_law_272 rfl ?_
  refine zr_iadd hx hb d_L_law_273 ?_
  refine zr_sld hx hb hX hbl hbA hS (i := i + 2) (by omega) (by omega) (by omega) d_L_law_274 ?_
  refine lv_aload_n hx hb d_L_law_275 rfl (lv_at hl 0 rfl) ?_
  refine lv_iload_n hx hb d_L_law_276 rfl (lv_at hl 3 rfl) ?_
  refine lv_iconst (v := zi 3) hx hb d_L_law_277 rfl ?_
  refine zr_iadd hx hb d_L_law_278 ?_
  refine zr_sld hx hb hX hbl hbA hS (i := i + 3) (by omega) (by omega) (by omega) d_L_law_279 ?_
  refine lv_aload_n hx hb d_L_law_280 rfl (lv_at hl 0 rfl) ?_
  refine lv_iload_n hx hb d_L_law_281 rfl (lv_at hl 3 rfl) ?_
  refine lv_iconst (v := zi 4) hx hb d_L_law_282 rfl ?_
  refine zr_iadd hx hb d_L_law_283 ?_
  refine zr_sld hx hb hX hbl hbA hS (i := i + 4) (by omega) (by omega) (by omega) d_L_law_284 ?_
  refine lv_aload_n hx hb d_L_law_285 rfl (lv_at hl 0 rfl) ?_
  refine lv_iload_n hx hb d_L_law_286 rfl (lv_at hl 3 rfl) ?_
  refine lv_iconst (v := zi 5) hx hb d_L_law_287 rfl ?_
  refine zr_iadd hx hb d_L_law_288 ?_
  refine zr_sld hx hb hX hbl hbA hS (i := i + 5) (by omega) (by omega) (by omega) d_L_law_289 ?_
  refine zc_w (va_runV (As := [.int (zi (zX xs (i + 1))), .int (zi (zX xs (i + 2))), .int (zi (zX xs (i + 3))), .int (zi (zX xs (i + 4))), .int (zi (zX xs (i + 5)))]) (rest := [.int (zi ((f_S_box S (zX xs (i + 1)) (zX xs (i + 2)) (zX xs (i + 3)) (zX xs (i + 4)) (zX xs (i + 5))).1))]) ⟨hx, hb, hml, hown, hts⟩ (k_M_box l dC dI ae cI N j0 j1 j2 j3 hIN hj2 (zX xs (i + 1)) (zX xs (i + 2)) (zX xs (i + 3)) (zX xs (i + 4)) (zX xs (i + 5)) (zB.w (zX_b xs (i + 1)) (by decide) (by decide)) (zB.w (zX_b xs (i + 2)) (by decide) (by decide)) (zB.w (zX_b xs (i + 3)) (by decide) (by decide)) (zB.w (zX_b xs (i + 4)) (by decide) (by decide)) (zB.w (zX_b xs (i + 5)) (by decide) (by decide))) (zlV 5 hts m_277 m_3 m_274 m_275 m_276 rfl rfl q_M_box ⟨Nat.le_of_ble_eq_true rfl, Nat.le_of_ble_eq_true rfl⟩) (zpM0 hM hK [.int (zi (zX xs (i + 1))), .int (zi (zX xs (i + 2))), .int (zi (zX xs (i + 3))), .int (zi (zX xs (i + 4))), .int (zi (zX xs (i + 5)))]) rfl rfl hl.1 rfl (lv_room (Nat.le_of_ble_eq_true rfl)) d_L_law_290 ⟨Nat.le_of_ble_eq_true rfl, Nat.le_of_ble_eq_true rfl⟩) hS (fun q _ h => hge2 q h) (fun q h => hge2 q h) (fun H1 locs hQ hz1 hk9 hS => ?_)
  have hP' := zkeep (zDS hj1 cI ((f_S_box S (zX xs (i + 1)) (zX xs (i + 2)) (zX xs (i + 3)) (zX xs (i + 4)) (zX xs (i + 5))).2) k0 k1 k2 k3) hP hdis2 hk9
  clear hP hM
  have hM := hQ
  have hP := hP'
  clear hQ hP' hk9 hz1
  generalize H1 = H at hP hM hS ⊢
  have hRR := (E_box hR (zX xs (i + 1)) (zX xs (i + 2)) (zX xs (i + 3)) (zX xs (i + 4)) (zX xs (i + 5)) (zB.w (zX_b xs (i + 1)) (by decide) (by decide)) (zB.w (zX_b xs (i + 2)) (by decide) (by decide)) (zB.w (zX_b xs (i + 3)) (by decide) (by decide)) (zB.w (zX_b xs (i + 4)) (by decide) (by decide)) (zB.w (zX_b xs (i + 5)) (by decide) (by decide))).2
  refine lv_icmp_eq (tgt := 801) hx hb d_L_law_293 (by decide) (fun _ => ?_) (fun c9 => absurd (by rw [(E_box hR (zX xs (i + 1)) (zX xs (i + 2)) (zX xs (i + 3)) (zX xs (i + 4)) (zX xs (i + 5)) (zB.w (zX_b xs (i + 1)) (by decide) (by decide)) (zB.w (zX_b xs (i + 2)) (by decide) (by decide)) (zB.w (zX_b xs (i + 3)) (by decide) (by decide)) (zB.w (zX_b xs (i + 4)) (by decide) (by decide)) (zB.w (zX_b xs (i + 5)) (by decide) (by decide))).1]) c9)
  exact nx _ _ ls ⟨(f_S_box S (zX xs (i + 1)) (zX xs (i + 2)) (zX xs (i + 3)) (zX xs (i + 4)) (zX xs (i + 5))).2, (f_M_box N (zX xs (i + 1)) (zX xs (i + 2)) (zX xs (i + 3)) (zX xs (i + 4)) (zX xs (i + 5))).2, k0, k1, k2, k3, j0, j1, j2, j3, hRR, hk0, hk1, hk2, hk3, hj0, hj1', hj2', hj3, hP, hM⟩ hS hl
set_option maxHeartbeats 4000000 in
set_option maxRecDepth 100000 in
theorem law_speed {p : Program} {l : Launch} {e : Env} {s : State} {m : MethodId} {below : List Frame} {meth : Method} {c : Code} {dC : Nat → ClassId} {dI : Nat → Nat → Nat} {cI : ClassId} {ad ae : Nat → Nat} {b L : Nat} {xs : Nat → Int32} (hL : L ≤ 3072) (C0 : lw_At p s m meth c b L xs) (G0 : zG2 dC dI cI ad ae s) (i : Int) (hi0 : 0 ≤ i) (hi1 : i + 6 ≤ (L : Int)) (nx : ∀ (H : Heap) (locs : List Loc) (ls : Array Slot), zI2 dC dI cI ad ae s H → va_S (fun q : Nat => s.heap.size ≤ q) s.heap H locs → lv_has ls 4 [(0, .ref b), (1, .ref (ad 0)), (2, .ref (ae 0)), (3, .int (zi i))] → W p l e room_1 s m #[Value.ref b] below meth c H locs 21 960 (lw_Z below #[Value.ref b] s) (F0 m 801 ls [])) (H : Heap) (locs : List Loc) (ls : Array Slot) (hI2 : zI2 dC dI cI ad ae s H) (hS : va_S (fun q : Nat => s.heap.size ≤ q) s.heap H locs) (hl : lv_has ls 4 [(0, .ref b), (1, .ref (ad 0)), (2, .ref (ae 0)), (3, .int (zi i))]) : W p l e room_1 s m #[Value.ref b] below meth c H locs 21 960 (lw_Z below #[Value.ref b] s) (F0 m 298 ls []) := by
  obtain ⟨hx, hb, hr, hml, hown, hts, hX, hbl, hlocks, hgv⟩ := C0
  have hw : ∀ w9 ∈ zT, w9.before #[Value.ref b] s = true := fun w9 h => hts w9 (zT_in h)
  obtain ⟨hj1, hj2, hge1, hge2, hdis, hdis2, hK, hN⟩ := G0
  have hbA : ¬ (fun q : Nat => s.heap.size ≤ q) b := Nat.not_le.mpr hbl
  obtain ⟨S, N, k0, k1, k2, k3, j0, j1, j2, j3, hR, hk0, hk1, hk2, hk3, hj0, hj1', hj2', hj3, hP, hM⟩ := hI2
  have hIS := hR.1
  have hIN := hR.2.1
  refine lv_aload_n hx hb d_L_law_298 rfl (lv_at hl 1 rfl) ?_
  refine lv_aload_n hx hb d_L_law_299 rfl (lv_at hl 0 rfl) ?_
  refine lv_iload_n hx hb d_L_law_300 rfl (lv_at hl 3 rfl) ?_
  refine lv_iconst (v := zi 1) hx hb d_L_law_301 rfl ?_
  refine zr_iadd hx hb d_L_law_302 ?_
  refine zr_sld hx hb hX hbl hbA hS (i := i + 1) (by omega) (by omega) (by omega) d_L_law_303 ?_
  refine lv_aload_n hx hb d_L_law_304 rfl (lv_at hl 0 rfl) ?_
  refine lv_iload_n hx hb d_L_law_305 rfl (lv_at hl 3 rfl) ?_
  refine lv_iconst (v := zi 2) hx hb d_L_law_306 rfl ?_
  refine zr_iadd hx hb d_L_law_307 ?_
  refine zr_sld hx hb hX hbl hbA hS (i := i + 2) (by omega) (by omega) (by omega) d_L_law_308 ?_
  refine zc_w (va_runV (As := [.int (zi (zX xs (i + 1))), .int (zi (zX xs (i + 2)))]) (rest := []) ⟨hx, hb, hml, hown, hts⟩ (k_S_speed l dC dI ad cI S k0 k1 k2 k3 hIS hj1 (zX xs (i + 1)) (zX xs (i + 2)) (zB.w (zX_b xs (i + 1)) (by decide) (by decide)) (zB.w (zX_b xs (i + 2)) (by decide) (by decide))) (zlV 2 hts m_98 m_1 m_95 m_96 m_97 rfl rfl q_S_speed ⟨Nat.le_of_ble_eq_true rfl, Nat.le_of_ble_eq_true rfl⟩) (zpS0 hP hK hN [.int (zi (zX xs (i + 1))), .int (zi (zX xs (i + 2)))]) rfl rfl hl.1 rfl (lv_room (Nat.le_of_ble_eq_true rfl)) d_L_law_309 ⟨Nat.le_of_ble_eq_true rfl, Nat.le_of_ble_eq_true rfl⟩) hS (fun q _ h => hge1 q h) (fun q h => hge1 q h) (fun H1 locs hQ hz1 hk9 hS => ?_)
  have hM' := zkeep (zDM hj2 cI N j0 j1 j2 j3) hM hdis hk9
  clear hP hM
  have hP := hQ
  have hM := hM'
  clear hQ hM' hk9 hz1
  generalize H1 = H at hP hM hS ⊢
  refine lv_aload_n hx hb d_L_law_312 rfl (lv_at hl 2 rfl) ?_
  refine lv_aload_n hx hb d_L_law_313 rfl (lv_at hl 0 rfl) ?_
  refine lv_iload_n hx hb d_L_law_314 rfl (lv_at hl 3 rfl) ?_
  refine lv_iconst (v := zi 1) hx hb d_L_law_315 rfl ?_
  refine zr_iadd hx hb d_L_law_316 ?_
  refine zr_sld hx hb hX hbl hbA hS (i := i + 1) (by omega) (by omega) (by omega) d_L_law_317 ?_
  refine lv_aload_n hx hb d_L_law_318 rfl (lv_at hl 0 rfl) ?_
  refine lv_iload_n hx hb d_L_law_319 rfl (lv_at hl 3 rfl) ?_
  refine lv_iconst (v := zi 2) hx hb d_L_law_320 rfl ?_
  refine zr_iadd hx hb d_L_law_321 ?_
  refine zr_sld hx hb hX hbl hbA hS (i := i + 2) (by omega) (by omega) (by omega) d_L_law_322 ?_
  refine zc_w (va_runV (As := [.int (zi (zX xs (i + 1))), .int (zi (zX xs (i + 2)))]) (rest := [.int (zi ((f_S_speed S (zX xs (i + 1)) (zX xs (i + 2))).1))]) ⟨hx, hb, hml, hown, hts⟩ (k_M_speed l dC dI ae cI N j0 j1 j2 j3 hIN hj2 (zX xs (i + 1)) (zX xs (i + 2)) (zB.w (zX_b xs (i + 1)) (by decide) (by decide)) (zB.w (zX_b xs (i + 2)) (by decide) (by decide))) (zlV 2 hts m_281 m_3 m_278 m_279 m_280 rfl rfl q_M_speed ⟨Nat.le_of_ble_eq_true rfl, Nat.le_of_ble_eq_true rfl⟩) (zpM0 hM hK [.int (zi (zX xs (i + 1))), .int (zi (zX xs (i + 2)))]) rfl rfl hl.1 rfl (lv_room (Nat.le_of_ble_eq_true rfl)) d_L_law_323 ⟨Nat.le_of_ble_eq_true rfl, Nat.le_of_ble_eq_true rfl⟩) hS (fun q _ h => hge2 q h) (fun q h => hge2 q h) (fun H1 locs hQ hz1 hk9 hS => ?_)
  have hP' := zkeep (zDS hj1 cI ((f_S_speed S (zX xs (i + 1)) (zX xs (i + 2))).2) k0 k1 k2 k3) hP hdis2 hk9
  clear hP hM
  have hM := hQ
  have hP := hP'
  clear hQ hP' hk9 hz1
  generalize H1 = H at hP hM hS ⊢
  have hRR := (E_speed hR (zX xs (i + 1)) (zX xs (i + 2)) (zB.w (zX_b xs (i + 1)) (by decide) (by decide)) (zB.w (zX_b xs (i + 2)) (by decide) (by decide))).2
  refine lv_icmp_eq (tgt := 801) hx hb d_L_law_326 (by decide) (fun _ => ?_) (fun c9 => absurd (by rw [(E_speed hR (zX xs (i + 1)) (zX xs (i + 2)) (zB.w (zX_b xs (i + 1)) (by decide) (by decide)) (zB.w (zX_b xs (i + 2)) (by decide) (by decide))).1]) c9)
  exact nx _ _ ls ⟨(f_S_speed S (zX xs (i + 1)) (zX xs (i + 2))).2, (f_M_speed N (zX xs (i + 1)) (zX xs (i + 2))).2, k0, k1, k2, k3, j0, j1, j2, j3, hRR, hk0, hk1, hk2, hk3, hj0, hj1', hj2', hj3, hP, hM⟩ hS hl
set_option maxHeartbeats 4000000 in
set_option maxRecDepth 100000 in
theorem law_brake {p : Program} {l : Launch} {e : Env} {s : State} {m : MethodId} {below : List Frame} {meth : Method} {c : Code} {dC : Nat → ClassId} {dI : Nat → Nat → Nat} {cI : ClassId} {ad ae : Nat → Nat} {b L : Nat} {xs : Nat → Int32} (hL : L ≤ 3072) (C0 : lw_At p s m meth c b L xs) (G0 : zG2 dC dI cI ad ae s) (i : Int) (hi0 : 0 ≤ i) (hi1 : i + 6 ≤ (L : Int)) (nx : ∀ (H : Heap) (locs : List Loc) (ls : Array Slot), zI2 dC dI cI ad ae s H → va_S (fun q : Nat => s.heap.size ≤ q) s.heap H locs → lv_has ls 4 [(0, .ref b), (1, .ref (ad 0)), (2, .ref (ae 0)), (3, .int (zi i))] → W p l e room_1 s m #[Value.ref b] below meth c H locs 21 960 (lw_Z below #[Value.ref b] s) (F0 m 801 ls [])) (H : Heap) (locs : List Loc) (ls : Array Slot) (hI2 : zI2 dC dI cI ad ae s H) (hS : va_S (fun q : Nat => s.heap.size ≤ q) s.heap H locs) (hl : lv_has ls 4 [(0, .ref b), (1, .ref (ad 0)), (2, .ref (ae 0)), (3, .int (zi i))]) : W p l e room_1 s m #[Value.ref b] below meth c H locs 21 960 (lw_Z below #[Value.ref b] s) (F0 m 331 ls []) := by
  obtain ⟨hx, hb, hr, hml, hown, hts, hX, hbl, hlocks, hgv⟩ := C0
  have hw : ∀ w9 ∈ zT, w9.before #[Value.ref b] s = true := fun w9 h => hts w9 (zT_in h)
  obtain ⟨hj1, hj2, hge1, hge2, hdis, hdis2, hK, hN⟩ := G0
  have hbA : ¬ (fun q : Nat => s.heap.size ≤ q) b := Nat.not_le.mpr hbl
  obtain ⟨S, N, k0, k1, k2, k3, j0, j1, j2, j3, hR, hk0, hk1, hk2, hk3, hj0, hj1', hj2', hj3, hP, hM⟩ := hI2
  have hIS := hR.1
  have hIN := hR.2.1
  refine lv_aload_n hx hb d_L_law_331 rfl (lv_at hl 1 rfl) ?_
  refine lv_aload_n hx hb d_L_law_332 rfl (lv_at hl 0 rfl) ?_
  refine lv_iload_n hx hb d_L_law_333 rfl (lv_at hl 3 rfl) ?_
  refine lv_iconst (v := zi 1) hx hb d_L_law_334 rfl ?_
  refine zr_iadd hx hb d_L_law_335 ?_
  refine zr_sld hx hb hX hbl hbA hS (i := i + 1) (by omega) (by omega) (by omega) d_L_law_336 ?_
  refine lv_aload_n hx hb d_L_law_337 rfl (lv_at hl 0 rfl) ?_
  refine lv_iload_n hx hb d_L_law_338 rfl (lv_at hl 3 rfl) ?_
  refine lv_iconst (v := zi 2) hx hb d_L_law_339 rfl ?_
  refine zr_iadd hx hb d_L_law_340 ?_
  refine zr_sld hx hb hX hbl hbA hS (i := i + 2) (by omega) (by omega) (by omega) d_L_law_341 ?_
  refine zc_w (va_runV (As := [.int (zi (zX xs (i + 1))), .int (zi (zX xs (i + 2)))]) (rest := []) ⟨hx, hb, hml, hown, hts⟩ (k_S_brake l dC dI ad cI S k0 k1 k2 k3 hIS hj1 (zX xs (i + 1)) (zX xs (i + 2)) (zB.w (zX_b xs (i + 1)) (by decide) (by decide)) (zB.w (zX_b xs (i + 2)) (by decide) (by decide))) (zlV 2 hts m_102 m_1 m_99 m_100 m_101 rfl rfl q_S_brake ⟨Nat.le_of_ble_eq_true rfl, Nat.le_of_ble_eq_true rfl⟩) (zpS0 hP hK hN [.int (zi (zX xs (i + 1))), .int (zi (zX xs (i + 2)))]) rfl rfl hl.1 rfl (lv_room (Nat.le_of_ble_eq_true rfl)) d_L_law_342 ⟨Nat.le_of_ble_eq_true rfl, Nat.le_of_ble_eq_true rfl⟩) hS (fun q _ h => hge1 q h) (fun q h => hge1 q h) (fun H1 locs hQ hz1 hk9 hS => ?_)
  have hM' := zkeep (zDM hj2 cI N j0 j1 j2 j3) hM hdis hk9
  clear hP hM
  have hP := hQ
  have hM := hM'
  clear hQ hM' hk9 hz1
  generalize H1 = H at hP hM hS ⊢
  refine lv_aload_n hx hb d_L_law_345 rfl (lv_at hl 2 rfl) ?_
  refine lv_aload_n hx hb d_L_law_346 rfl (lv_at hl 0 rfl) ?_
  refine lv_iload_n hx hb d_L_law_347 rfl (lv_at hl 3 rfl) ?_
  refine lv_iconst (v := zi 1) hx hb d_L_law_348 rfl ?_
  refine zr_iadd hx hb d_L_law_349 ?_
  refine zr_sld hx hb hX hbl hbA hS (i := i + 1) (by omega) (by omega) (by omega) d_L_law_350 ?_
  refine lv_aload_n hx hb d_L_law_351 rfl (lv_at hl 0 rfl) ?_
  refine lv_iload_n hx hb d_L_law_352 rfl (lv_at hl 3 rfl) ?_
  refine lv_iconst (v := zi 2) hx hb d_L_law_353 rfl ?_
  refine zr_iadd hx hb d_L_law_354 ?_
  refine zr_sld hx hb hX hbl hbA hS (i := i + 2) (by omega) (by omega) (by omega) d_L_law_355 ?_
  refine zc_w (va_runV (As := [.int (zi (zX xs (i + 1))), .int (zi (zX xs (i + 2)))]) (rest := [.int (zi ((f_S_brake S (zX xs (i + 1)) (zX xs (i + 2))).1))]) ⟨hx, hb, hml, hown, hts⟩ (k_M_brake l dC dI ae cI N j0 j1 j2 j3 hIN hj2 (zX xs (i + 1)) (zX xs (i + 2)) (zB.w (zX_b xs (i + 1)) (by decide) (by decide)) (zB.w (zX_b xs (i + 2)) (by decide) (by decide))) (zlV 2 hts m_285 m_3 m_282 m_283 m_284 rfl rfl q_M_brake ⟨Nat.le_of_ble_eq_true rfl, Nat.le_of_ble_eq_true rfl⟩) (zpM0 hM hK [.int (zi (zX xs (i + 1))), .int (zi (zX xs (i + 2)))]) rfl rfl hl.1 rfl (lv_room (Nat.le_of_ble_eq_true rfl)) d_L_law_356 ⟨Nat.le_of_ble_eq_true rfl, Nat.le_of_ble_eq_true rfl⟩) hS (fun q _ h => hge2 q h) (fun q h => hge2 q h) (fun H1 locs hQ hz1 hk9 hS => ?_)
  have hP' := zkeep (zDS hj1 cI ((f_S_brake S (zX xs (i + 1)) (zX xs (i + 2))).2) k0 k1 k2 k3) hP hdis2 hk9
  clear hP hM
  have hM := hQ
  have hP := hP'
  clear hQ hP' hk9 hz1
  generalize H1 = H at hP hM hS ⊢
  have hRR := (E_brake hR (zX xs (i + 1)) (zX xs (i + 2)) (zB.w (zX_b xs (i + 1)) (by decide) (by decide)) (zB.w (zX_b xs (i + 2)) (by decide) (by decide))).2
  refine lv_icmp_eq (tgt := 801) hx hb d_L_law_359 (by decide) (fun _ => ?_) (fun c9 => absurd (by rw [(E_brake hR (zX xs (i + 1)) (zX xs (i + 2)) (zB.w (zX_b xs (i + 1)) (by decide) (by decide)) (zB.w (zX_b xs (i + 2)) (by decide) (by decide))).1]) c9)
  exact nx _ _ ls ⟨(f_S_brake S (zX xs (i + 1)) (zX xs (i + 2))).2, (f_M_brake N (zX xs (i + 1)) (zX xs (i + 2))).2, k0, k1, k2, k3, j0, j1, j2, j3, hRR, hk0, hk1, hk2, hk3, hj0, hj1', hj2', hj3, hP, hM⟩ hS hl
set_option maxHeartbeats 4000000 in
set_option maxRecDepth 100000 in
theorem law_way {p : Program} {l : Launch} {e : Env} {s : State} {m : MethodId} {below : List Frame} {meth : Method} {c : Code} {dC : Nat → ClassId} {dI : Nat → Nat → Nat} {cI : ClassId} {ad ae : Nat → Nat} {b L : Nat} {xs : Nat → Int32} (hL : L ≤ 3072) (C0 : lw_At p s m meth c b L xs) (G0 : zG2 dC dI cI ad ae s) (i : Int) (hi0 : 0 ≤ i) (hi1 : i + 6 ≤ (L : Int)) (nx : ∀ (H : Heap) (locs : List Loc) (ls : Array Slot), zI2 dC dI cI ad ae s H → va_S (fun q : Nat => s.heap.size ≤ q) s.heap H locs → lv_has ls 4 [(0, .ref b), (1, .ref (ad 0)), (2, .ref (ae 0)), (3, .int (zi i))] → W p l e room_1 s m #[Value.ref b] below meth c H locs 21 960 (lw_Z below #[Value.ref b] s) (F0 m 801 ls [])) (H : Heap) (locs : List Loc) (ls : Array Slot) (hI2 : zI2 dC dI cI ad ae s H) (hS : va_S (fun q : Nat => s.heap.size ≤ q) s.heap H locs) (hl : lv_has ls 4 [(0, .ref b), (1, .ref (ad 0)), (2, .ref (ae 0)), (3, .int (zi i))]) : W p l e room_1 s m #[Value.ref b] below meth c H locs 21 960 (lw_Z below #[Value.ref b] s) (F0 m 364 ls []) := by
  obtain ⟨hx, hb, hr, hml, hown, hts, hX, hbl, hlocks, hgv⟩ := C0
  have hw : ∀ w9 ∈ zT, w9.before #[Value.ref b] s = true := fun w9 h => hts w9 (zT_in h)
  obtain ⟨hj1, hj2, hge1, hge2, hdis, hdis2, hK, hN⟩ := G0
  have hbA : ¬ (fun q : Nat => s.heap.size ≤ q) b := Nat.not_le.mpr hbl
  obtain ⟨S, N, k0, k1, k2, k3, j0, j1, j2, j3, hR, hk0, hk1, hk2, hk3, hj0, hj1', hj2', hj3, hP, hM⟩ := hI2
  have hIS := hR.1
  have hIN := hR.2.1
  refine lv_aload_n hx hb d_L_law_364 rfl (lv_at hl 1 rfl) ?_
  refine lv_aload_n hx hb d_L_law_365 rfl (lv_at hl 0 rfl) ?_
  refine lv_iload_n hx hb d_L_law_366 rfl (lv_at hl 3 rfl) ?_
  refine lv_iconst (v := zi 1) hx hb d_L_law_367 rfl ?_
  refine zr_iadd hx hb d_L_law_368 ?_
  refine zr_sld hx hb hX hbl hbA hS (i := i + 1) (by omega) (by omega) (by omega) d_L_law_369 ?_
  refine zc_n (va_runV (As := [.int (zi (zX xs (i + 1)))]) (rest := []) ⟨hx, hb, hml, hown, hts⟩ (k_S_way l dC dI ad cI S k0 k1 k2 k3 hIS (zX xs (i + 1)) (zB.w (zX_b xs (i + 1)) (by decide) (by decide))) (zlV 1 hts m_106 m_1 m_103 m_104 m_105 rfl rfl q_S_way ⟨Nat.le_of_ble_eq_true rfl, Nat.le_of_ble_eq_true rfl⟩) (zpS0 hP hK hN [.int (zi (zX xs (i + 1)))]) rfl rfl hl.1 rfl (lv_room (Nat.le_of_ble_eq_true rfl)) d_L_law_370 ⟨Nat.le_of_ble_eq_true rfl, Nat.le_of_ble_eq_true rfl⟩) ?_
  refine lv_aload_n hx hb d_L_law_373 rfl (lv_at hl 2 rfl) ?_
  refine lv_aload_n hx hb d_L_law_374 rfl (lv_at hl 0 rfl) ?_
  refine lv_iload_n hx hb d_L_law_375 rfl (lv_at hl 3 rfl) ?_
  refine lv_iconst (v := zi 1) hx hb d_L_law_376 rfl ?_
  refine zr_iadd hx hb d_L_law_377 ?_
  refine zr_sld hx hb hX hbl hbA hS (i := i + 1) (by omega) (by omega) (by omega) d_L_law_378 ?_
  refine zc_n (va_runV (As := [.int (zi (zX xs (i + 1)))]) (rest := [.int (zi (f_S_way S (zX xs (i + 1))))]) ⟨hx, hb, hml, hown, hts⟩ (k_M_way l dC dI ae cI N j0 j1 j2 j3 hIN (zX xs (i + 1)) (zB.w (zX_b xs (i + 1)) (by decide) (by decide))) (zlV 1 hts m_289 m_3 m_286 m_287 m_288 rfl rfl q_M_way ⟨Nat.le_of_ble_eq_true rfl, Nat.le_of_ble_eq_true rfl⟩) (zpM0 hM hK [.int (zi (zX xs (i + 1)))]) rfl rfl hl.1 rfl (lv_room (Nat.le_of_ble_eq_true rfl)) d_L_law_379 ⟨Nat.le_of_ble_eq_true rfl, Nat.le_of_ble_eq_true rfl⟩) ?_
  have hRR := hR
  refine lv_icmp_eq (tgt := 801) hx hb d_L_law_382 (by decide) (fun _ => ?_) (fun c9 => absurd (by rw [(E_way hR (zX xs (i + 1)) (zB.w (zX_b xs (i + 1)) (by decide) (by decide)))]) c9)
  exact nx _ _ ls ⟨S, N, k0, k1, k2, k3, j0, j1, j2, j3, hRR, hk0, hk1, hk2, hk3, hj0, hj1', hj2', hj3, hP, hM⟩ hS hl
set_option maxHeartbeats 4000000 in
set_option maxRecDepth 100000 in
theorem law_view {p : Program} {l : Launch} {e : Env} {s : State} {m : MethodId} {below : List Frame} {meth : Method} {c : Code} {dC : Nat → ClassId} {dI : Nat → Nat → Nat} {cI : ClassId} {ad ae : Nat → Nat} {b L : Nat} {xs : Nat → Int32} (hL : L ≤ 3072) (C0 : lw_At p s m meth c b L xs) (G0 : zG2 dC dI cI ad ae s) (i : Int) (hi0 : 0 ≤ i) (hi1 : i + 6 ≤ (L : Int)) (nx : ∀ (H : Heap) (locs : List Loc) (ls : Array Slot), zI2 dC dI cI ad ae s H → va_S (fun q : Nat => s.heap.size ≤ q) s.heap H locs → lv_has ls 4 [(0, .ref b), (1, .ref (ad 0)), (2, .ref (ae 0)), (3, .int (zi i))] → W p l e room_1 s m #[Value.ref b] below meth c H locs 21 960 (lw_Z below #[Value.ref b] s) (F0 m 801 ls [])) (H : Heap) (locs : List Loc) (ls : Array Slot) (hI2 : zI2 dC dI cI ad ae s H) (hS : va_S (fun q : Nat => s.heap.size ≤ q) s.heap H locs) (hl : lv_has ls 4 [(0, .ref b), (1, .ref (ad 0)), (2, .ref (ae 0)), (3, .int (zi i))]) : W p l e room_1 s m #[Value.ref b] below meth c H locs 21 960 (lw_Z below #[Value.ref b] s) (F0 m 387 ls []) := by
  obtain ⟨hx, hb, hr, hml, hown, hts, hX, hbl, hlocks, hgv⟩ := C0
  have hw : ∀ w9 ∈ zT, w9.before #[Value.ref b] s = true := fun w9 h => hts w9 (zT_in h)
  obtain ⟨hj1, hj2, hge1, hge2, hdis, hdis2, hK, hN⟩ := G0
  have hbA : ¬ (fun q : Nat => s.heap.size ≤ q) b := Nat.not_le.mpr hbl
  obtain ⟨S, N, k0, k1, k2, k3, j0, j1, j2, j3, hR, hk0, hk1, hk2, hk3, hj0, hj1', hj2', hj3, hP, hM⟩ := hI2
  have hIS := hR.1
  have hIN := hR.2.1
  refine lv_aload_n hx hb d_L_law_387 rfl (lv_at hl 1 rfl) ?_
  refine lv_aload_n hx hb d_L_law_388 rfl (lv_at hl 0 rfl) ?_
  refine lv_iload_n hx hb d_L_law_389 rfl (lv_at hl 3 rfl) ?_
  refine lv_iconst (v := zi 1) hx hb d_L_law_390 rfl ?_
  refine zr_iadd hx hb d_L_law_391 ?_
  refine zr_sld hx hb hX hbl hbA hS (i := i + 1) (by omega) (by omega) (by omega) d_L_law_392 ?_
  refine lv_aload_n hx hb d_L_law_393 rfl (lv_at hl 0 rfl) ?_
  refine lv_iload_n hx hb d_L_law_394 rfl (lv_at hl 3 rfl) ?_
  refine lv_iconst (v := zi 2) hx hb d_L_law_395 rfl ?_
  refine zr_iadd hx hb d_L_law_396 ?_
  refine zr_sld hx hb hX hbl hbA hS (i := i + 2) (by omega) (by omega) (by omega) d_L_law_397 ?_
  refine lv_aload_n hx hb d_L_law_398 rfl (lv_at hl 0 rfl) ?_
  refine lv_iload_n hx hb d_L_law_399 rfl (lv_at hl 3 rfl) ?_
  refine lv_iconst (v := zi 3) hx hb d_L_law_400 rfl ?_
  refine zr_iadd hx hb d_L_law_401 ?_
  refine zr_sld hx hb hX hbl hbA hS (i := i + 3) (by omega) (by omega) (by omega) d_L_law_402 ?_
  refine zc_w (va_runV (As := [.int (zi (zX xs (i + 1))), .int (zi (zX xs (i + 2))), .int (zi (zX xs (i + 3)))]) (rest := []) ⟨hx, hb, hml, hown, hts⟩ (k_S_view l dC dI ad cI S k0 k1 k2 k3 hIS hj1 hk0 hk1 hk2 hk3 (zX xs (i + 1)) (zX xs (i + 2)) (zX xs (i + 3)) (zB.w (zX_b xs (i + 1)) (by decide) (by decide)) (zB.w (zX_b xs (i + 2)) (by decide) (by decide)) (zB.w (zX_b xs (i + 3)) (by decide) (by decide))) (zlV 3 hts m_110 m_1 m_107 m_108 m_109 rfl rfl q_S_view ⟨Nat.le_of_ble_eq_true rfl, Nat.le_of_ble_eq_true rfl⟩) (zpS0 hP hK hN [.int (zi (zX xs (i + 1))), .int (zi (zX xs (i + 2))), .int (zi (zX xs (i + 3)))]) rfl rfl hl.1 rfl (lv_room (Nat.le_of_ble_eq_true rfl)) d_L_law_403 ⟨Nat.le_of_ble_eq_true rfl, Nat.le_of_ble_eq_true rfl⟩) hS (fun q _ h => hge1 q h) (fun q h => hge1 q h) (fun H1 locs hQ hz1 hk9 hS => ?_)
  obtain ⟨n1, n2, n3, n4, hn1, hn2, hn3, hn4, hQ⟩ := hQ
  have hM' := zkeep (zDM hj2 cI N j0 j1 j2 j3) hM hdis hk9
  clear hP hM
  have hP := hQ
  have hM := hM'
  clear hQ hM' hk9 hz1
  generalize H1 = H at hP hM hS ⊢
  refine lv_aload_n hx hb d_L_law_406 rfl (lv_at hl 2 rfl) ?_
  refine lv_aload_n hx hb d_L_law_407 rfl (lv_at hl 0 rfl) ?_
  refine lv_iload_n hx hb d_L_law_408 rfl (lv_at hl 3 rfl) ?_
  refine lv_iconst (v := zi 1) hx hb d_L_law_409 rfl ?_
  refine zr_iadd hx hb d_L_law_410 ?_
  refine zr_sld hx hb hX hbl hbA hS (i := i + 1) (by omega) (by omega) (by omega) d_L_law_411 ?_
  refine lv_aload_n hx hb d_L_law_412 rfl (lv_at hl 0 rfl) ?_
  refine lv_iload_n hx hb d_L_law_413 rfl (lv_at hl 3 rfl) ?_
  refine lv_iconst (v := zi 2) hx hb d_L_law_414 rfl ?_
  refine zr_iadd hx hb d_L_law_415 ?_
  refine zr_sld hx hb hX hbl hbA hS (i := i + 2) (by omega) (by omega) (by omega) d_L_law_416 ?_
  refine lv_aload_n hx hb d_L_law_417 rfl (lv_at hl 0 rfl) ?_
  refine lv_iload_n hx hb d_L_law_418 rfl (lv_at hl 3 rfl) ?_
  refine lv_iconst (v := zi 3) hx hb d_L_law_419 rfl ?_
  refine zr_iadd hx hb d_L_law_420 ?_
  refine zr_sld hx hb hX hbl hbA hS (i := i + 3) (by omega) (by omega) (by omega) d_L_law_421 ?_
  refine zc_w (va_runV (As := [.int (zi (zX xs (i + 1))), .int (zi (zX xs (i + 2))), .int (zi (zX xs (i + 3)))]) (rest := [.int (zi (f_S_view S (zX xs (i + 1)) (zX xs (i + 2)) (zX xs (i + 3))))]) ⟨hx, hb, hml, hown, hts⟩ (k_M_view l dC dI ae cI N j0 j1 j2 j3 hIN hj2 hj0 hj1' hj2' hj3 (zX xs (i + 1)) (zX xs (i + 2)) (zX xs (i + 3)) (zB.w (zX_b xs (i + 1)) (by decide) (by decide)) (zB.w (zX_b xs (i + 2)) (by decide) (by decide)) (zB.w (zX_b xs (i + 3)) (by decide) (by decide))) (zlV 3 hts m_293 m_3 m_290 m_291 m_292 rfl rfl q_M_view ⟨Nat.le_of_ble_eq_true rfl, Nat.le_of_ble_eq_true rfl⟩) (zpM0 hM hK [.int (zi (zX xs (i + 1))), .int (zi (zX xs (i + 2))), .int (zi (zX xs (i + 3)))]) rfl rfl hl.1 rfl (lv_room (Nat.le_of_ble_eq_true rfl)) d_L_law_422 ⟨Nat.le_of_ble_eq_true rfl, Nat.le_of_ble_eq_true rfl⟩) hS (fun q _ h => hge2 q h) (fun q h => hge2 q h) (fun H1 locs hQ hz1 hk9 hS => ?_)
  obtain ⟨n5, n6, n7, n8, hn5, hn6, hn7, hn8, hQ⟩ := hQ
  have hP' := zkeep (zDS hj1 cI S n1 n2 n3 n4) hP hdis2 hk9
  clear hP hM
  have hM := hQ
  have hP := hP'
  clear hQ hP' hk9 hz1
  generalize H1 = H at hP hM hS ⊢
  have hRR := hR
  refine lv_icmp_eq (tgt := 801) hx hb d_L_law_425 (by decide) (fun _ => ?_) (fun c9 => absurd (by rw [(E_view hR (zX xs (i + 1)) (zX xs (i + 2)) (zX xs (i + 3)) (zB.w (zX_b xs (i + 1)) (by decide) (by decide)) (zB.w (zX_b xs (i + 2)) (by decide) (by decide)) (zB.w (zX_b xs (i + 3)) (by decide) (by decide)))]) c9)
  exact nx _ _ ls ⟨S, N, n1, n2, n3, n4, n5, n6, n7, n8, hRR, hn1, hn2, hn3, hn4, hn5, hn6, hn7, hn8, hP, hM⟩ hS hl
set_option maxHeartbeats 4000000 in
set_option maxRecDepth 100000 in
theorem law_sight {p : Program} {l : Launch} {e : Env} {s : State} {m : MethodId} {below : List Frame} {meth : Method} {c : Code} {dC : Nat → ClassId} {dI : Nat → Nat → Nat} {cI : ClassId} {ad ae : Nat → Nat} {b L : Nat} {xs : Nat → Int32} (hL : L ≤ 3072) (C0 : lw_At p s m meth c b L xs) (G0 : zG2 dC dI cI ad ae s) (i : Int) (hi0 : 0 ≤ i) (hi1 : i + 6 ≤ (L : Int)) (nx : ∀ (H : Heap) (locs : List Loc) (ls : Array Slot), zI2 dC dI cI ad ae s H → va_S (fun q : Nat => s.heap.size ≤ q) s.heap H locs → lv_has ls 4 [(0, .ref b), (1, .ref (ad 0)), (2, .ref (ae 0)), (3, .int (zi i))] → W p l e room_1 s m #[Value.ref b] below meth c H locs 21 960 (lw_Z below #[Value.ref b] s) (F0 m 801 ls [])) (H : Heap) (locs : List Loc) (ls : Array Slot) (hI2 : zI2 dC dI cI ad ae s H) (hS : va_S (fun q : Nat => s.heap.size ≤ q) s.heap H locs) (hl : lv_has ls 4 [(0, .ref b), (1, .ref (ad 0)), (2, .ref (ae 0)), (3, .int (zi i))]) : W p l e room_1 s m #[Value.ref b] below meth c H locs 21 960 (lw_Z below #[Value.ref b] s) (F0 m 430 ls []) := by
  obtain ⟨hx, hb, hr, hml, hown, hts, hX, hbl, hlocks, hgv⟩ := C0
  have hw : ∀ w9 ∈ zT, w9.before #[Value.ref b] s = true := fun w9 h => hts w9 (zT_in h)
  obtain ⟨hj1, hj2, hge1, hge2, hdis, hdis2, hK, hN⟩ := G0
  have hbA : ¬ (fun q : Nat => s.heap.size ≤ q) b := Nat.not_le.mpr hbl
  obtain ⟨S, N, k0, k1, k2, k3, j0, j1, j2, j3, hR, hk0, hk1, hk2, hk3, hj0, hj1', hj2', hj3, hP, hM⟩ := hI2
  have hIS := hR.1
  have hIN := hR.2.1
  refine lv_aload_n hx hb d_L_law_430 rfl (lv_at hl 1 rfl) ?_
  refine lv_aload_n hx hb d_L_law_431 rfl (lv_at hl 0 rfl) ?_
  refine lv_iload_n hx hb d_L_law_432 rfl (lv_at hl 3 rfl) ?_
  refine lv_iconst (v := zi 1) hx hb d_L_law_433 rfl ?_
  refine zr_iadd hx hb d_L_law_434 ?_
  refine zr_sld hx hb hX hbl hbA hS (i := i + 1) (by omega) (by omega) (by omega) d_L_law_435 ?_
  refine lv_aload_n hx hb d_L_law_436 rfl (lv_at hl 0 rfl) ?_
  refine lv_iload_n hx hb d_L_law_437 rfl (lv_at hl 3 rfl) ?_
  refine lv_iconst (v := zi 2) hx hb d_L_law_438 rfl ?_
  refine zr_iadd hx hb d_L_law_439 ?_
  refine zr_sld hx hb hX hbl hbA hS (i := i + 2) (by omega) (by omega) (by omega) d_L_law_440 ?_
  refine zr_if_eq (tgt := 448) hx hb (zB.I (zX_b xs (i + 2)) (by decide) (by decide)) d_L_law_441 (by decide) (fun c9 => ?_) (fun c9 => ?_)
  · refine lv_iconst (v := zi 0) hx hb d_L_law_448 rfl ?_
    refine zc_w (va_runV (As := [.int (zi (zX xs (i + 1))), .int (zi (0))]) (rest := []) ⟨hx, hb, hml, hown, hts⟩ (k_S_sight l dC dI ad cI S k0 k1 k2 k3 hIS hj1 hk0 hk1 hk2 hk3 (zX xs (i + 1)) (0) (zB.w (zX_b xs (i + 1)) (by decide) (by decide)) (zB.w (zb_c 0) (by decide) (by decide))) (zlV 2 hts m_151 m_1 m_148 m_149 m_150 rfl rfl q_S_sight ⟨Nat.le_of_ble_eq_true rfl, Nat.le_of_ble_eq_true rfl⟩) (zpS0 hP hK hN [.int (zi (zX xs (i + 1))), .int (zi (0))]) rfl rfl hl.1 rfl (lv_room (Nat.le_of_ble_eq_true rfl)) d_L_law_449 ⟨Nat.le_of_ble_eq_true rfl, Nat.le_of_ble_eq_true rfl⟩) hS (fun q _ h => hge1 q h) (fun q h => hge1 q h) (fun H1 locs hQ hz1 hk9 hS => ?_)
    obtain ⟨n10, n11, n12, n13, hn10, hn11, hn12, hn13, hQ⟩ := hQ
    have hM' := zkeep (zDM hj2 cI N j0 j1 j2 j3) hM hdis hk9
    clear hP hM
    have hP := hQ
    have hM := hM'
    clear hQ hM' hk9 hz1
    generalize H1 = H at hP hM hS ⊢
    refine lv_aload_n hx hb d_L_law_452 rfl (lv_at hl 2 rfl) ?_
    refine lv_aload_n hx hb d_L_law_453 rfl (lv_at hl 0 rfl) ?_
    refine lv_iload_n hx hb d_L_law_454 rfl (lv_at hl 3 rfl) ?_
    refine lv_iconst (v := zi 1) hx hb d_L_law_455 rfl ?_
    refine zr_iadd hx hb d_L_law_456 ?_
    refine zr_sld hx hb hX hbl hbA hS (i := i + 1) (by omega) (by omega) (by omega) d_L_law_457 ?_
    refine lv_aload_n hx hb d_L_law_458 rfl (lv_at hl 0 rfl) ?_
    refine lv_iload_n hx hb d_L_law_459 rfl (lv_at hl 3 rfl) ?_
    refine lv_iconst (v := zi 2) hx hb d_L_law_460 rfl ?_
    refine zr_iadd hx hb d_L_law_461 ?_
    refine zr_sld hx hb hX hbl hbA hS (i := i + 2) (by omega) (by omega) (by omega) d_L_law_462 ?_
    refine zr_if_eq (tgt := 470) hx hb (zB.I (zX_b xs (i + 2)) (by decide) (by decide)) d_L_law_463 (by decide) (fun _ => ?_) (fun cz => absurd c9 cz)
    refine lv_iconst (v := zi 0) hx hb d_L_law_470 rfl ?_
    refine zc_w (va_runV (As := [.int (zi (zX xs (i + 1))), .int (zi (0))]) (rest := [.int (zi (f_S_sight S (zX xs (i + 1)) (0)))]) ⟨hx, hb, hml, hown, hts⟩ (k_M_sight l dC dI ae cI N j0 j1 j2 j3 hIN hj2 hj0 hj1' hj2' hj3 (zX xs (i + 1)) (0) (zB.w (zX_b xs (i + 1)) (by decide) (by decide)) (zB.w (zb_c 0) (by decide) (by decide))) (zlV 2 hts m_321 m_3 m_318 m_319 m_320 rfl rfl q_M_sight ⟨Nat.le_of_ble_eq_true rfl, Nat.le_of_ble_eq_true rfl⟩) (zpM0 hM hK [.int (zi (zX xs (i + 1))), .int (zi (0))]) rfl rfl hl.1 rfl (lv_room (Nat.le_of_ble_eq_true rfl)) d_L_law_471 ⟨Nat.le_of_ble_eq_true rfl, Nat.le_of_ble_eq_true rfl⟩) hS (fun q _ h => hge2 q h) (fun q h => hge2 q h) (fun H1 locs hQ hz1 hk9 hS => ?_)
    obtain ⟨n14, n15, n16, n17, hn14, hn15, hn16, hn17, hQ⟩ := hQ
    have hP' := zkeep (zDS hj1 cI S n10 n11 n12 n13) hP hdis2 hk9
    clear hP hM
    have hM := hQ
    have hP := hP'
    clear hQ hP' hk9 hz1
    generalize H1 = H at hP hM hS ⊢
    have hRR := hR
    refine lv_icmp_eq (tgt := 801) hx hb d_L_law_474 (by decide) (fun _ => ?_) (fun c9 => absurd (by rw [(E_sight hR (zX xs (i + 1)) (0) (zB.w (zX_b xs (i + 1)) (by decide) (by decide)) (zB.w (zb_c 0) (by decide) (by decide)))]) c9)
    exact nx _ _ ls ⟨S, N, n10, n11, n12, n13, n14, n15, n16, n17, hRR, hn10, hn11, hn12, hn13, hn14, hn15, hn16, hn17, hP, hM⟩ hS hl
  · refine lv_iconst (v := zi 1) hx hb d_L_law_444 rfl ?_
    refine lv_goto (tgt := 449) hx hb d_L_law_445 (by decide) ?_
    refine zc_w (va_runV (As := [.int (zi (zX xs (i + 1))), .int (zi (1))]) (rest := []) ⟨hx, hb, hml, hown, hts⟩ (k_S_sight l dC dI ad cI S k0 k1 k2 k3 hIS hj1 hk0 hk1 hk2 hk3 (zX xs (i + 1)) (1) (zB.w (zX_b xs (i + 1)) (by decide) (by decide)) (zB.w (zb_c 1) (by decide) (by decide))) (zlV 2 hts m_151 m_1 m_148 m_149 m_150 rfl rfl q_S_sight ⟨Nat.le_of_ble_eq_true rfl, Nat.le_of_ble_eq_true rfl⟩) (zpS0 hP hK hN [.int (zi (zX xs (i + 1))), .int (zi (1))]) rfl rfl hl.1 rfl (lv_room (Nat.le_of_ble_eq_true rfl)) d_L_law_449 ⟨Nat.le_of_ble_eq_true rfl, Nat.le_of_ble_eq_true rfl⟩) hS (fun q _ h => hge1 q h) (fun q h => hge1 q h) (fun H1 locs hQ hz1 hk9 hS => ?_)
    obtain ⟨n18, n19, n20, n21, hn18, hn19, hn20, hn21, hQ⟩ := hQ
    have hM' := zkeep (zDM hj2 cI N j0 j1 j2 j3) hM hdis hk9
    clear hP hM
    have hP := hQ
    have hM := hM'
    clear hQ hM' hk9 hz1
    generalize H1 = H at hP hM hS ⊢
    refine lv_aload_n hx hb d_L_law_452 rfl (lv_at hl 2 rfl) ?_
    refine lv_aload_n hx hb d_L_law_453 rfl (lv_at hl 0 rfl) ?_
    refine lv_iload_n hx hb d_L_law_454 rfl (lv_at hl 3 rfl) ?_
    refine lv_iconst (v := zi 1) hx hb d_L_law_455 rfl ?_
    refine zr_iadd hx hb d_L_law_456 ?_
    refine zr_sld hx hb hX hbl hbA hS (i := i + 1) (by omega) (by omega) (by omega) d_L_law_457 ?_
    refine lv_aload_n hx hb d_L_law_458 rfl (lv_at hl 0 rfl) ?_
    refine lv_iload_n hx hb d_L_law_459 rfl (lv_at hl 3 rfl) ?_
    refine lv_iconst (v := zi 2) hx hb d_L_law_460 rfl ?_
    refine zr_iadd hx hb d_L_law_461 ?_
    refine zr_sld hx hb hX hbl hbA hS (i := i + 2) (by omega) (by omega) (by omega) d_L_law_462 ?_
    refine zr_if_eq (tgt := 470) hx hb (zB.I (zX_b xs (i + 2)) (by decide) (by decide)) d_L_law_463 (by decide) (fun cz => absurd cz c9) (fun _ => ?_)
    refine lv_iconst (v := zi 1) hx hb d_L_law_466 rfl ?_
    refine lv_goto (tgt := 471) hx hb d_L_law_467 (by decide) ?_
    refine zc_w (va_runV (As := [.int (zi (zX xs (i + 1))), .int (zi (1))]) (rest := [.int (zi (f_S_sight S (zX xs (i + 1)) (1)))]) ⟨hx, hb, hml, hown, hts⟩ (k_M_sight l dC dI ae cI N j0 j1 j2 j3 hIN hj2 hj0 hj1' hj2' hj3 (zX xs (i + 1)) (1) (zB.w (zX_b xs (i + 1)) (by decide) (by decide)) (zB.w (zb_c 1) (by decide) (by decide))) (zlV 2 hts m_321 m_3 m_318 m_319 m_320 rfl rfl q_M_sight ⟨Nat.le_of_ble_eq_true rfl, Nat.le_of_ble_eq_true rfl⟩) (zpM0 hM hK [.int (zi (zX xs (i + 1))), .int (zi (1))]) rfl rfl hl.1 rfl (lv_room (Nat.le_of_ble_eq_true rfl)) d_L_law_471 ⟨Nat.le_of_ble_eq_true rfl, Nat.le_of_ble_eq_true rfl⟩) hS (fun q _ h => hge2 q h) (fun q h => hge2 q h) (fun H1 locs hQ hz1 hk9 hS => ?_)
    obtain ⟨n22, n23, n24, n25, hn22, hn23, hn24, hn25, hQ⟩ := hQ
    have hP' := zkeep (zDS hj1 cI S n18 n19 n20 n21) hP hdis2 hk9
    clear hP hM
    have hM := hQ
    have hP := hP'
    clear hQ hP' hk9 hz1
    generalize H1 = H at hP hM hS ⊢
    have hRR := hR
    refine lv_icmp_eq (tgt := 801) hx hb d_L_law_474 (by decide) (fun _ => ?_) (fun c9 => absurd (by rw [(E_sight hR (zX xs (i + 1)) (1) (zB.w (zX_b xs (i + 1)) (by decide) (by decide)) (zB.w (zb_c 1) (by decide) (by decide)))]) c9)
    exact nx _ _ ls ⟨S, N, n18, n19, n20, n21, n22, n23, n24, n25, hRR, hn18, hn19, hn20, hn21, hn22, hn23, hn24, hn25, hP, hM⟩ hS hl
set_option maxHeartbeats 4000000 in
set_option maxRecDepth 100000 in
theorem law_need {p : Program} {l : Launch} {e : Env} {s : State} {m : MethodId} {below : List Frame} {meth : Method} {c : Code} {dC : Nat → ClassId} {dI : Nat → Nat → Nat} {cI : ClassId} {ad ae : Nat → Nat} {b L : Nat} {xs : Nat → Int32} (hL : L ≤ 3072) (C0 : lw_At p s m meth c b L xs) (G0 : zG2 dC dI cI ad ae s) (i : Int) (hi0 : 0 ≤ i) (hi1 : i + 6 ≤ (L : Int)) (nx : ∀ (H : Heap) (locs : List Loc) (ls : Array Slot), zI2 dC dI cI ad ae s H → va_S (fun q : Nat => s.heap.size ≤ q) s.heap H locs → lv_has ls 4 [(0, .ref b), (1, .ref (ad 0)), (2, .ref (ae 0)), (3, .int (zi i))] → W p l e room_1 s m #[Value.ref b] below meth c H locs 21 960 (lw_Z below #[Value.ref b] s) (F0 m 801 ls [])) (H : Heap) (locs : List Loc) (ls : Array Slot) (hI2 : zI2 dC dI cI ad ae s H) (hS : va_S (fun q : Nat => s.heap.size ≤ q) s.heap H locs) (hl : lv_has ls 4 [(0, .ref b), (1, .ref (ad 0)), (2, .ref (ae 0)), (3, .int (zi i))]) : W p l e room_1 s m #[Value.ref b] below meth c H locs 21 960 (lw_Z below #[Value.ref b] s) (F0 m 479 ls []) := by
  obtain ⟨hx, hb, hr, hml, hown, hts, hX, hbl, hlocks, hgv⟩ := C0
  have hw : ∀ w9 ∈ zT, w9.before #[Value.ref b] s = true := fun w9 h => hts w9 (zT_in h)
  obtain ⟨hj1, hj2, hge1, hge2, hdis, hdis2, hK, hN⟩ := G0
  have hbA : ¬ (fun q : Nat => s.heap.size ≤ q) b := Nat.not_le.mpr hbl
  obtain ⟨S, N, k0, k1, k2, k3, j0, j1, j2, j3, hR, hk0, hk1, hk2, hk3, hj0, hj1', hj2', hj3, hP, hM⟩ := hI2
  have hIS := hR.1
  have hIN := hR.2.1
  refine lv_aload_n hx hb d_L_law_479 rfl (lv_at hl 1 rfl) ?_
  refine lv_aload_n hx hb d_L_law_480 rfl (lv_at hl 0 rfl) ?_
  refine lv_iload_n hx hb d_L_law_481 rfl (lv_at hl 3 rfl) ?_
  refine lv_iconst (v := zi 1) hx hb d_L_law_482 rfl ?_
  refine zr_iadd hx hb d_L_law_483 ?_
  refine zr_sld hx hb hX hbl hbA hS (i := i + 1) (by omega) (by omega) (by omega) d_L_law_484 ?_
  refine lv_aload_n hx hb d_L_law_485 rfl (lv_at hl 0 rfl) ?_
  refine lv_iload_n hx hb d_L_law_486 rfl (lv_at hl 3 rfl) ?_
  refine lv_iconst (v := zi 2) hx hb d_L_law_487 rfl ?_
  refine zr_iadd hx hb d_L_law_488 ?_
  refine zr_sld hx hb hX hbl hbA hS (i := i + 2) (by omega) (by omega) (by omega) d_L_law_489 ?_
  refine zr_if_eq (tgt := 497) hx hb (zB.I (zX_b xs (i + 2)) (by decide) (by decide)) d_L_law_490 (by decide) (fun c26 => ?_) (fun c26 => ?_)
  · refine lv_iconst (v := zi 0) hx hb d_L_law_497 rfl ?_
    refine zc_n (va_runV (As := [.int (zi (zX xs (i + 1))), .int (zi (0))]) (rest := []) ⟨hx, hb, hml, hown, hts⟩ (k_S_need l dC dI ad cI S k0 k1 k2 k3 hIS (zX xs (i + 1)) (0) (zB.w (zX_b xs (i + 1)) (by decide) (by decide)) (zB.w (zb_c 0) (by decide) (by decide))) (zlV 2 hts m_158 m_1 m_155 m_156 m_157 rfl rfl q_S_need ⟨Nat.le_of_ble_eq_true rfl, Nat.le_of_ble_eq_true rfl⟩) (zpS0 hP hK hN [.int (zi (zX xs (i + 1))), .int (zi (0))]) rfl rfl hl.1 rfl (lv_room (Nat.le_of_ble_eq_true rfl)) d_L_law_498 ⟨Nat.le_of_ble_eq_true rfl, Nat.le_of_ble_eq_true rfl⟩) ?_
    refine lv_aload_n hx hb d_L_law_501 rfl (lv_at hl 2 rfl) ?_
    refine lv_aload_n hx hb d_L_law_502 rfl (lv_at hl 0 rfl) ?_
    refine lv_iload_n hx hb d_L_law_503 rfl (lv_at hl 3 rfl) ?_
    refine lv_iconst (v := zi 1) hx hb d_L_law_504 rfl ?_
    refine zr_iadd hx hb d_L_law_505 ?_
    refine zr_sld hx hb hX hbl hbA hS (i := i + 1) (by omega) (by omega) (by omega) d_L_law_506 ?_
    refine lv_aload_n hx hb d_L_law_507 rfl (lv_at hl 0 rfl) ?_
    refine lv_iload_n hx hb d_L_law_508 rfl (lv_at hl 3 rfl) ?_
    refine lv_iconst (v := zi 2) hx hb d_L_law_509 rfl ?_
    refine zr_iadd hx hb d_L_law_510 ?_
    refine zr_sld hx hb hX hbl hbA hS (i := i + 2) (by omega) (by omega) (by omega) d_L_law_511 ?_
    refine zr_if_eq (tgt := 519) hx hb (zB.I (zX_b xs (i + 2)) (by decide) (by decide)) d_L_law_512 (by decide) (fun _ => ?_) (fun cz => absurd c26 cz)
    refine lv_iconst (v := zi 0) hx hb d_L_law_519 rfl ?_
    refine zc_n (va_runV (As := [.int (zi (zX xs (i + 1))), .int (zi (0))]) (rest := [.int (zi (f_S_need S (zX xs (i + 1)) (0)))]) ⟨hx, hb, hml, hown, hts⟩ (k_M_need l dC dI ae cI N j0 j1 j2 j3 hIN (zX xs (i + 1)) (0) (zB.w (zX_b xs (i + 1)) (by decide) (by decide)) (zB.w (zb_c 0) (by decide) (by decide))) (zlV 2 hts m_328 m_3 m_325 m_326 m_327 rfl rfl q_M_need ⟨Nat.le_of_ble_eq_true rfl, Nat.le_of_ble_eq_true rfl⟩) (zpM0 hM hK [.int (zi (zX xs (i + 1))), .int (zi (0))]) rfl rfl hl.1 rfl (lv_room (Nat.le_of_ble_eq_true rfl)) d_L_law_520 ⟨Nat.le_of_ble_eq_true rfl, Nat.le_of_ble_eq_true rfl⟩) ?_
    have hRR := hR
    refine lv_icmp_eq (tgt := 801) hx hb d_L_law_523 (by decide) (fun _ => ?_) (fun c9 => absurd (by rw [(E_need hR (zX xs (i + 1)) (0) (zB.w (zX_b xs (i + 1)) (by decide) (by decide)) (zB.w (zb_c 0) (by decide) (by decide)))]) c9)
    exact nx _ _ ls ⟨S, N, k0, k1, k2, k3, j0, j1, j2, j3, hRR, hk0, hk1, hk2, hk3, hj0, hj1', hj2', hj3, hP, hM⟩ hS hl
  · refine lv_iconst (v := zi 1) hx hb d_L_law_493 rfl ?_
    refine lv_goto (tgt := 498) hx hb d_L_law_494 (by decide) ?_
    refine zc_n (va_runV (As := [.int (zi (zX xs (i + 1))), .int (zi (1))]) (rest := []) ⟨hx, hb, hml, hown, hts⟩ (k_S_need l dC dI ad cI S k0 k1 k2 k3 hIS (zX xs (i + 1)) (1) (zB.w (zX_b xs (i + 1)) (by decide) (by decide)) (zB.w (zb_c 1) (by decide) (by decide))) (zlV 2 hts m_158 m_1 m_155 m_156 m_157 rfl rfl q_S_need ⟨Nat.le_of_ble_eq_true rfl, Nat.le_of_ble_eq_true rfl⟩) (zpS0 hP hK hN [.int (zi (zX xs (i + 1))), .int (zi (1))]) rfl rfl hl.1 rfl (lv_room (Nat.le_of_ble_eq_true rfl)) d_L_law_498 ⟨Nat.le_of_ble_eq_true rfl, Nat.le_of_ble_eq_true rfl⟩) ?_
    refine lv_aload_n hx hb d_L_law_501 rfl (lv_at hl 2 rfl) ?_
    refine lv_aload_n hx hb d_L_law_502 rfl (lv_at hl 0 rfl) ?_
    refine lv_iload_n hx hb d_L_law_503 rfl (lv_at hl 3 rfl) ?_
    refine lv_iconst (v := zi 1) hx hb d_L_law_504 rfl ?_
    refine zr_iadd hx hb d_L_law_505 ?_
    refine zr_sld hx hb hX hbl hbA hS (i := i + 1) (by omega) (by omega) (by omega) d_L_law_506 ?_
    refine lv_aload_n hx hb d_L_law_507 rfl (lv_at hl 0 rfl) ?_
    refine lv_iload_n hx hb d_L_law_508 rfl (lv_at hl 3 rfl) ?_
    refine lv_iconst (v := zi 2) hx hb d_L_law_509 rfl ?_
    refine zr_iadd hx hb d_L_law_510 ?_
    refine zr_sld hx hb hX hbl hbA hS (i := i + 2) (by omega) (by omega) (by omega) d_L_law_511 ?_
    refine zr_if_eq (tgt := 519) hx hb (zB.I (zX_b xs (i + 2)) (by decide) (by decide)) d_L_law_512 (by decide) (fun cz => absurd cz c26) (fun _ => ?_)
    refine lv_iconst (v := zi 1) hx hb d_L_law_515 rfl ?_
    refine lv_goto (tgt := 520) hx hb d_L_law_516 (by decide) ?_
    refine zc_n (va_runV (As := [.int (zi (zX xs (i + 1))), .int (zi (1))]) (rest := [.int (zi (f_S_need S (zX xs (i + 1)) (1)))]) ⟨hx, hb, hml, hown, hts⟩ (k_M_need l dC dI ae cI N j0 j1 j2 j3 hIN (zX xs (i + 1)) (1) (zB.w (zX_b xs (i + 1)) (by decide) (by decide)) (zB.w (zb_c 1) (by decide) (by decide))) (zlV 2 hts m_328 m_3 m_325 m_326 m_327 rfl rfl q_M_need ⟨Nat.le_of_ble_eq_true rfl, Nat.le_of_ble_eq_true rfl⟩) (zpM0 hM hK [.int (zi (zX xs (i + 1))), .int (zi (1))]) rfl rfl hl.1 rfl (lv_room (Nat.le_of_ble_eq_true rfl)) d_L_law_520 ⟨Nat.le_of_ble_eq_true rfl, Nat.le_of_ble_eq_true rfl⟩) ?_
    have hRR := hR
    refine lv_icmp_eq (tgt := 801) hx hb d_L_law_523 (by decide) (fun _ => ?_) (fun c9 => absurd (by rw [(E_need hR (zX xs (i + 1)) (1) (zB.w (zX_b xs (i + 1)) (by decide) (by decide)) (zB.w (zb_c 1) (by decide) (by decide)))]) c9)
    exact nx _ _ ls ⟨S, N, k0, k1, k2, k3, j0, j1, j2, j3, hRR, hk0, hk1, hk2, hk3, hj0, hj1', hj2', hj3, hP, hM⟩ hS hl
set_option maxHeartbeats 4000000 in
set_option maxRecDepth 100000 in
theorem law_blind {p : Program} {l : Launch} {e : Env} {s : State} {m : MethodId} {below : List Frame} {meth : Method} {c : Code} {dC : Nat → ClassId} {dI : Nat → Nat → Nat} {cI : ClassId} {ad ae : Nat → Nat} {b L : Nat} {xs : Nat → Int32} (hL : L ≤ 3072) (C0 : lw_At p s m meth c b L xs) (G0 : zG2 dC dI cI ad ae s) (i : Int) (hi0 : 0 ≤ i) (hi1 : i + 6 ≤ (L : Int)) (nx : ∀ (H : Heap) (locs : List Loc) (ls : Array Slot), zI2 dC dI cI ad ae s H → va_S (fun q : Nat => s.heap.size ≤ q) s.heap H locs → lv_has ls 4 [(0, .ref b), (1, .ref (ad 0)), (2, .ref (ae 0)), (3, .int (zi i))] → W p l e room_1 s m #[Value.ref b] below meth c H locs 21 960 (lw_Z below #[Value.ref b] s) (F0 m 801 ls [])) (H : Heap) (locs : List Loc) (ls : Array Slot) (hI2 : zI2 dC dI cI ad ae s H) (hS : va_S (fun q : Nat => s.heap.size ≤ q) s.heap H locs) (hl : lv_has ls 4 [(0, .ref b), (1, .ref (ad 0)), (2, .ref (ae 0)), (3, .int (zi i))]) : W p l e room_1 s m #[Value.ref b] below meth c H locs 21 960 (lw_Z below #[Value.ref b] s) (F0 m 528 ls []) := by
  obtain ⟨hx, hb, hr, hml, hown, hts, hX, hbl, hlocks, hgv⟩ := C0
  have hw : ∀ w9 ∈ zT, w9.before #[Value.ref b] s = true := fun w9 h => hts w9 (zT_in h)
  obtain ⟨hj1, hj2, hge1, hge2, hdis, hdis2, hK, hN⟩ := G0
  have hbA : ¬ (fun q : Nat => s.heap.size ≤ q) b := Nat.not_le.mpr hbl
  obtain ⟨S, N, k0, k1, k2, k3, j0, j1, j2, j3, hR, hk0, hk1, hk2, hk3, hj0, hj1', hj2', hj3, hP, hM⟩ := hI2
  have hIS := hR.1
  have hIN := hR.2.1
  refine lv_aload_n hx hb d_L_law_528 rfl (lv_at hl 1 rfl) ?_
  refine lv_aload_n hx hb d_L_law_529 rfl (lv_at hl 0 rfl) ?_
  refine lv_iload_n hx hb d_L_law_530 rfl (lv_at hl 3 rfl) ?_
  refine lv_iconst (v := zi 1) hx hb d_L_law_531 rfl ?_
  refine zr_iadd hx hb d_L_law_532 ?_
  refine zr_sld hx hb hX hbl hbA hS (i := i + 1) (by omega) (by omega) (by omega) d_L_law_533 ?_
  refine zr_if_eq (tgt := 541) hx hb (zB.I (zX_b xs (i + 1)) (by decide) (by decide)) d_L_law_534 (by decide) (fun c27 => ?_) (fun c27 => ?_)
  · refine lv_iconst (v := zi 0) hx hb d_L_law_541 rfl ?_
    refine lv_aload_n hx hb d_L_law_542 rfl (lv_at hl 0 rfl) ?_
    refine lv_iload_n hx hb d_L_law_543 rfl (lv_at hl 3 rfl) ?_
    refine lv_iconst (v := zi 2) hx hb d_L_law_544 rfl ?_
    refine zr_iadd hx hb d_L_law_545 ?_
    refine zr_sld hx hb hX hbl hbA hS (i := i + 2) (by omega) (by omega) (by omega) d_L_law_546 ?_
    refine lv_aload_n hx hb d_L_law_547 rfl (lv_at hl 0 rfl) ?_
    refine lv_iload_n hx hb d_L_law_548 rfl (lv_at hl 3 rfl) ?_
    refine lv_iconst (v := zi 3) hx hb d_L_law_549 rfl ?_
    refine zr_iadd hx hb d_L_law_550 ?_
    refine zr_sld hx hb hX hbl hbA hS (i := i + 3) (by omega) (by omega) (by omega) d_L_law_551 ?_
    refine zc_w (va_runV (As := [.int (zi (0)), .int (zi (zX xs (i + 2))), .int (zi (zX xs (i + 3)))]) (rest := []) ⟨hx, hb, hml, hown, hts⟩ (k_S_blind l dC dI ad cI S k0 k1 k2 k3 hIS hj1 hk0 hk1 hk2 hk3 (0) (zX xs (i + 2)) (zX xs (i + 3)) (zB.w (zb_c 0) (by decide) (by decide)) (zB.w (zX_b xs (i + 2)) (by decide) (by decide)) (zB.w (zX_b xs (i + 3)) (by decide) (by decide))) (zlV 3 hts m_177 m_1 m_174 m_175 m_176 rfl rfl q_S_blind ⟨Nat.le_of_ble_eq_true rfl, Nat.le_of_ble_eq_true rfl⟩) (zpS0 hP hK hN [.int (zi (0)), .int (zi (zX xs (i + 2))), .int (zi (zX xs (i + 3)))]) rfl rfl hl.1 rfl (lv_room (Nat.le_of_ble_eq_true rfl)) d_L_law_552 ⟨Nat.le_of_ble_eq_true rfl, Nat.le_of_ble_eq_true rfl⟩) hS (fun q _ h => hge1 q h) (fun q h => hge1 q h) (fun H1 locs hQ hz1 hk9 hS => ?_)
    obtain ⟨n28, n29, n30, n31, hn28, hn29, hn30, hn31, hQ⟩ := hQ
    have hM' := zkeep (zDM hj2 cI N j0 j1 j2 j3) hM hdis hk9
    clear hP hM
    have hP := hQ
    have hM := hM'
    clear hQ hM' hk9 hz1
    generalize H1 = H at hP hM hS ⊢
    refine lv_aload_n hx hb d_L_law_555 rfl (lv_at hl 2 rfl) ?_
    refine lv_aload_n hx hb d_L_law_556 rfl (lv_at hl 0 rfl) ?_
    refine lv_iload_n hx hb d_L_law_557 rfl (lv_at hl 3 rfl) ?_
    refine lv_iconst (v := zi 1) hx hb d_L_law_558 rfl ?_
    refine zr_iadd hx hb d_L_law_559 ?_
    refine zr_sld hx hb hX hbl hbA hS (i := i + 1) (by omega) (by omega) (by omega) d_L_law_560 ?_
    refine zr_if_eq (tgt := 568) hx hb (zB.I (zX_b xs (i + 1)) (by decide) (by decide)) d_L_law_561 (by decide) (fun _ => ?_) (fun cz => absurd c27 cz)
    refine lv_iconst (v := zi 0) hx hb d_L_law_568 rfl ?_
    refine lv_aload_n hx hb d_L_law_569 rfl (lv_at hl 0 rfl) ?_
    refine lv_iload_n hx hb d_L_law_570 rfl (lv_at hl 3 rfl) ?_
    refine lv_iconst (v := zi 2) hx hb d_L_law_571 rfl ?_
    refine zr_iadd hx hb d_L_law_572 ?_
    refine zr_sld hx hb hX hbl hbA hS (i := i + 2) (by omega) (by omega) (by omega) d_L_law_573 ?_
    refine lv_aload_n hx hb d_L_law_574 rfl (lv_at hl 0 rfl) ?_
    refine lv_iload_n hx hb d_L_law_575 rfl (lv_at hl 3 rfl) ?_
    refine lv_iconst (v := zi 3) hx hb d_L_law_576 rfl ?_
    refine zr_iadd hx hb d_L_law_577 ?_
    refine zr_sld hx hb hX hbl hbA hS (i := i + 3) (by omega) (by omega) (by omega) d_L_law_578 ?_
    refine zc_w (va_runV (As := [.int (zi (0)), .int (zi (zX xs (i + 2))), .int (zi (zX xs (i + 3)))]) (rest := [.int (zi (f_S_blind S (0) (zX xs (i + 2)) (zX xs (i + 3))))]) ⟨hx, hb, hml, hown, hts⟩ (k_M_blind l dC dI ae cI N j0 j1 j2 j3 hIN hj2 hj0 hj1' hj2' hj3 (0) (zX xs (i + 2)) (zX xs (i + 3)) (zB.w (zb_c 0) (by decide) (by decide)) (zB.w (zX_b xs (i + 2)) (by decide) (by decide)) (zB.w (zX_b xs (i + 3)) (by decide) (by decide))) (zlV 3 hts m_339 m_3 m_336 m_337 m_338 rfl rfl q_M_blind ⟨Nat.le_of_ble_eq_true rfl, Nat.le_of_ble_eq_true rfl⟩) (zpM0 hM hK [.int (zi (0)), .int (zi (zX xs (i + 2))), .int (zi (zX xs (i + 3)))]) rfl rfl hl.1 rfl (lv_room (Nat.le_of_ble_eq_true rfl)) d_L_law_579 ⟨Nat.le_of_ble_eq_true rfl, Nat.le_of_ble_eq_true rfl⟩) hS (fun q _ h => hge2 q h) (fun q h => hge2 q h) (fun H1 locs hQ hz1 hk9 hS => ?_)
    obtain ⟨n32, n33, n34, n35, hn32, hn33, hn34, hn35, hQ⟩ := hQ
    have hP' := zkeep (zDS hj1 cI S n28 n29 n30 n31) hP hdis2 hk9
    clear hP hM
    have hM := hQ
    have hP := hP'
    clear hQ hP' hk9 hz1
    generalize H1 = H at hP hM hS ⊢
    have hRR := hR
    refine lv_icmp_eq (tgt := 801) hx hb d_L_law_582 (by decide) (fun _ => ?_) (fun c9 => absurd (by rw [(E_blind hR (0) (zX xs (i + 2)) (zX xs (i + 3)) (zB.w (zb_c 0) (by decide) (by decide)) (zB.w (zX_b xs (i + 2)) (by decide) (by decide)) (zB.w (zX_b xs (i + 3)) (by decide) (by decide)))]) c9)
    exact nx _ _ ls ⟨S, N, n28, n29, n30, n31, n32, n33, n34, n35, hRR, hn28, hn29, hn30, hn31, hn32, hn33, hn34, hn35, hP, hM⟩ hS hl
  · refine lv_iconst (v := zi 1) hx hb d_L_law_537 rfl ?_
    refine lv_goto (tgt := 542) hx hb d_L_law_538 (by decide) ?_
    refine lv_aload_n hx hb d_L_law_542 rfl (lv_at hl 0 rfl) ?_
    refine lv_iload_n hx hb d_L_law_543 rfl (lv_at hl 3 rfl) ?_
    refine lv_iconst (v := zi 2) hx hb d_L_law_544 rfl ?_
    refine zr_iadd hx hb d_L_law_545 ?_
    refine zr_sld hx hb hX hbl hbA hS (i := i + 2) (by omega) (by omega) (by omega) d_L_law_546 ?_
    refine lv_aload_n hx hb d_L_law_547 rfl (lv_at hl 0 rfl) ?_
    refine lv_iload_n hx hb d_L_law_548 rfl (lv_at hl 3 rfl) ?_
    refine lv_iconst (v := zi 3) hx hb d_L_law_549 rfl ?_
    refine zr_iadd hx hb d_L_law_550 ?_
    refine zr_sld hx hb hX hbl hbA hS (i := i + 3) (by omega) (by omega) (by omega) d_L_law_551 ?_
    refine zc_w (va_runV (As := [.int (zi (1)), .int (zi (zX xs (i + 2))), .int (zi (zX xs (i + 3)))]) (rest := []) ⟨hx, hb, hml, hown, hts⟩ (k_S_blind l dC dI ad cI S k0 k1 k2 k3 hIS hj1 hk0 hk1 hk2 hk3 (1) (zX xs (i + 2)) (zX xs (i + 3)) (zB.w (zb_c 1) (by decide) (by decide)) (zB.w (zX_b xs (i + 2)) (by decide) (by decide)) (zB.w (zX_b xs (i + 3)) (by decide) (by decide))) (zlV 3 hts m_177 m_1 m_174 m_175 m_176 rfl rfl q_S_blind ⟨Nat.le_of_ble_eq_true rfl, Nat.le_of_ble_eq_true rfl⟩) (zpS0 hP hK hN [.int (zi (1)), .int (zi (zX xs (i + 2))), .int (zi (zX xs (i + 3)))]) rfl rfl hl.1 rfl (lv_room (Nat.le_of_ble_eq_true rfl)) d_L_law_552 ⟨Nat.le_of_ble_eq_true rfl, Nat.le_of_ble_eq_true rfl⟩) hS (fun q _ h => hge1 q h) (fun q h => hge1 q h) (fun H1 locs hQ hz1 hk9 hS => ?_)
    obtain ⟨n36, n37, n38, n39, hn36, hn37, hn38, hn39, hQ⟩ := hQ
    have hM' := zkeep (zDM hj2 cI N j0 j1 j2 j3) hM hdis hk9
    clear hP hM
    have hP := hQ
    have hM := hM'
    clear hQ hM' hk9 hz1
    generalize H1 = H at hP hM hS ⊢
    refine lv_aload_n hx hb d_L_law_555 rfl (lv_at hl 2 rfl) ?_
    refine lv_aload_n hx hb d_L_law_556 rfl (lv_at hl 0 rfl) ?_
    refine lv_iload_n hx hb d_L_law_557 rfl (lv_at hl 3 rfl) ?_
    refine lv_iconst (v := zi 1) hx hb d_L_law_558 rfl ?_
    refine zr_iadd hx hb d_L_law_559 ?_
    refine zr_sld hx hb hX hbl hbA hS (i := i + 1) (by omega) (by omega) (by omega) d_L_law_560 ?_
    refine zr_if_eq (tgt := 568) hx hb (zB.I (zX_b xs (i + 1)) (by decide) (by decide)) d_L_law_561 (by decide) (fun cz => absurd cz c27) (fun _ => ?_)
    refine lv_iconst (v := zi 1) hx hb d_L_law_564 rfl ?_
    refine lv_goto (tgt := 569) hx hb d_L_law_565 (by decide) ?_
    refine lv_aload_n hx hb d_L_law_569 rfl (lv_at hl 0 rfl) ?_
    refine lv_iload_n hx hb d_L_law_570 rfl (lv_at hl 3 rfl) ?_
    refine lv_iconst (v := zi 2) hx hb d_L_law_571 rfl ?_
    refine zr_iadd hx hb d_L_law_572 ?_
    refine zr_sld hx hb hX hbl hbA hS (i := i + 2) (by omega) (by omega) (by omega) d_L_law_573 ?_
    refine lv_aload_n hx hb d_L_law_574 rfl (lv_at hl 0 rfl) ?_
    refine lv_iload_n hx hb d_L_law_575 rfl (lv_at hl 3 rfl) ?_
    refine lv_iconst (v := zi 3) hx hb d_L_law_576 rfl ?_
    refine zr_iadd hx hb d_L_law_577 ?_
    refine zr_sld hx hb hX hbl hbA hS (i := i + 3) (by omega) (by omega) (by omega) d_L_law_578 ?_
    refine zc_w (va_runV (As := [.int (zi (1)), .int (zi (zX xs (i + 2))), .int (zi (zX xs (i + 3)))]) (rest := [.int (zi (f_S_blind S (1) (zX xs (i + 2)) (zX xs (i + 3))))]) ⟨hx, hb, hml, hown, hts⟩ (k_M_blind l dC dI ae cI N j0 j1 j2 j3 hIN hj2 hj0 hj1' hj2' hj3 (1) (zX xs (i + 2)) (zX xs (i + 3)) (zB.w (zb_c 1) (by decide) (by decide)) (zB.w (zX_b xs (i + 2)) (by decide) (by decide)) (zB.w (zX_b xs (i + 3)) (by decide) (by decide))) (zlV 3 hts m_339 m_3 m_336 m_337 m_338 rfl rfl q_M_blind ⟨Nat.le_of_ble_eq_true rfl, Nat.le_of_ble_eq_true rfl⟩) (zpM0 hM hK [.int (zi (1)), .int (zi (zX xs (i + 2))), .int (zi (zX xs (i + 3)))]) rfl rfl hl.1 rfl (lv_room (Nat.le_of_ble_eq_true rfl)) d_L_law_579 ⟨Nat.le_of_ble_eq_true rfl, Nat.le_of_ble_eq_true rfl⟩) hS (fun q _ h => hge2 q h) (fun q h => hge2 q h) (fun H1 locs hQ hz1 hk9 hS => ?_)
    obtain ⟨n40, n41, n42, n43, hn40, hn41, hn42, hn43, hQ⟩ := hQ
    have hP' := zkeep (zDS hj1 cI S n36 n37 n38 n39) hP hdis2 hk9
    clear hP hM
    have hM := hQ
    have hP := hP'
    clear hQ hP' hk9 hz1
    generalize H1 = H at hP hM hS ⊢
    have hRR := hR
    refine lv_icmp_eq (tgt := 801) hx hb d_L_law_582 (by decide) (fun _ => ?_) (fun c9 => absurd (by rw [(E_blind hR (1) (zX xs (i + 2)) (zX xs (i + 3)) (zB.w (zb_c 1) (by decide) (by decide)) (zB.w (zX_b xs (i + 2)) (by decide) (by decide)) (zB.w (zX_b xs (i + 3)) (by decide) (by decide)))]) c9)
    exact nx _ _ ls ⟨S, N, n36, n37, n38, n39, n40, n41, n42, n43, hRR, hn36, hn37, hn38, hn39, hn40, hn41, hn42, hn43, hP, hM⟩ hS hl
set_option maxHeartbeats 4000000 in
set_option maxRecDepth 100000 in
theorem law_setBack {p : Program} {l : Launch} {e : Env} {s : State} {m : MethodId} {below : List Frame} {meth : Method} {c : Code} {dC : Nat → ClassId} {dI : Nat → Nat → Nat} {cI : ClassId} {ad ae : Nat → Nat} {b L : Nat} {xs : Nat → Int32} (hL : L ≤ 3072) (C0 : lw_At p s m meth c b L xs) (G0 : zG2 dC dI cI ad ae s) (i : Int) (hi0 : 0 ≤ i) (hi1 : i + 6 ≤ (L : Int)) (nx : ∀ (H : Heap) (locs : List Loc) (ls : Array Slot), zI2 dC dI cI ad ae s H → va_S (fun q : Nat => s.heap.size ≤ q) s.heap H locs → lv_has ls 4 [(0, .ref b), (1, .ref (ad 0)), (2, .ref (ae 0)), (3, .int (zi i))] → W p l e room_1 s m #[Value.ref b] below meth c H locs 21 960 (lw_Z below #[Value.ref b] s) (F0 m 801 ls [])) (H : Heap) (locs : List Loc) (ls : Array Slot) (hI2 : zI2 dC dI cI ad ae s H) (hS : va_S (fun q : Nat => s.heap.size ≤ q) s.heap H locs) (hl : lv_has ls 4 [(0, .ref b), (1, .ref (ad 0)), (2, .ref (ae 0)), (3, .int (zi i))]) : W p l e room_1 s m #[Value.ref b] below meth c H locs 21 960 (lw_Z below #[Value.ref b] s) (F0 m 587 ls []) := by
  obtain ⟨hx, hb, hr, hml, hown, hts, hX, hbl, hlocks, hgv⟩ := C0
  have hw : ∀ w9 ∈ zT, w9.before #[Value.ref b] s = true := fun w9 h => hts w9 (zT_in h)
  obtain ⟨hj1, hj2, hge1, hge2, hdis, hdis2, hK, hN⟩ := G0
  have hbA : ¬ (fun q : Nat => s.heap.size ≤ q) b := Nat.not_le.mpr hbl
  obtain ⟨S, N, k0, k1, k2, k3, j0, j1, j2, j3, hR, hk0, hk1, hk2, hk3, hj0, hj1', hj2', hj3, hP, hM⟩ := hI2
  have hIS := hR.1
  have hIN := hR.2.1
  refine lv_aload_n hx hb d_L_law_587 rfl (lv_at hl 1 rfl) ?_
  refine lv_aload_n hx hb d_L_law_588 rfl (lv_at hl 0 rfl) ?_
  refine lv_iload_n hx hb d_L_law_589 rfl (lv_at hl 3 rfl) ?_
  refine lv_iconst (v := zi 1) hx hb d_L_law_590 rfl ?_
  refine zr_iadd hx hb d_L_law_591 ?_
  refine zr_sld hx hb hX hbl hbA hS (i := i + 1) (by omega) (by omega) (by omega) d_L_law_592 ?_
  refine lv_aload_n hx hb d_L_law_593 rfl (lv_at hl 0 rfl) ?_
  refine lv_iload_n hx hb d_L_law_594 rfl (lv_at hl 3 rfl) ?_
  refine lv_iconst (v := zi 2) hx hb d_L_law_595 rfl ?_
  refine zr_iadd hx hb d_L_law_596 ?_
  refine zr_sld hx hb hX hbl hbA hS (i := i + 2) (by omega) (by omega) (by omega) d_L_law_597 ?_
  refine zc_n (va_runV (As := [.int (zi (zX xs (i + 1))), .int (zi (zX xs (i + 2)))]) (rest := []) ⟨hx, hb, hml, hown, hts⟩ (k_S_setBack l dC dI ad cI S k0 k1 k2 k3 hIS (zX xs (i + 1)) (zX xs (i + 2)) (zB.w (zX_b xs (i + 1)) (by decide) (by decide)) (zB.w (zX_b xs (i + 2)) (by decide) (by decide))) (zlV 2 hts m_187 m_1 m_184 m_185 m_186 rfl rfl q_S_setBack ⟨Nat.le_of_ble_eq_true rfl, Nat.le_of_ble_eq_true rfl⟩) (zpS0 hP hK hN [.int (zi (zX xs (i + 1))), .int (zi (zX xs (i + 2)))]) rfl rfl hl.1 rfl (lv_room (Nat.le_of_ble_eq_true rfl)) d_L_law_598 ⟨Nat.le_of_ble_eq_true rfl, Nat.le_of_ble_eq_true rfl⟩) ?_
  refine lv_aload_n hx hb d_L_law_601 rfl (lv_at hl 2 rfl) ?_
  refine lv_aload_n hx hb d_L_law_602 rfl (lv_at hl 0 rfl) ?_
  refine lv_iload_n hx hb d_L_law_603 rfl (lv_at hl 3 rfl) ?_
  refine lv_iconst (v := zi 1) hx hb d_L_law_604 rfl ?_
  refine zr_iadd hx hb d_L_law_605 ?_
  refine zr_sld hx hb hX hbl hbA hS (i := i + 1) (by omega) (by omega) (by omega) d_L_law_606 ?_
  refine lv_aload_n hx hb d_L_law_607 rfl (lv_at hl 0 rfl) ?_
  refine lv_iload_n hx hb d_L_law_608 rfl (lv_at hl 3 rfl) ?_
  refine lv_iconst (v := zi 2) hx hb d_L_law_609 rfl ?_
  refine zr_iadd hx hb d_L_law_610 ?_
  refine zr_sld hx hb hX hbl hbA hS (i := i + 2) (by omega) (by omega) (by omega) d_L_law_611 ?_
  refine zc_n (va_runV (As := [.int (zi (zX xs (i + 1))), .int (zi (zX xs (i + 2)))]) (rest := [.int (zi (f_S_setBack S (zX xs (i + 1)) (zX xs (i + 2))))]) ⟨hx, hb, hml, hown, hts⟩ (k_M_setBack l dC dI ae cI N j0 j1 j2 j3 hIN (zX xs (i + 1)) (zX xs (i + 2)) (zB.w (zX_b xs (i + 1)) (by decide) (by decide)) (zB.w (zX_b xs (i + 2)) (by decide) (by decide))) (zlV 2 hts m_349 m_3 m_346 m_347 m_348 rfl rfl q_M_setBack ⟨Nat.le_of_ble_eq_true rfl, Nat.le_of_ble_eq_true rfl⟩) (zpM0 hM hK [.int (zi (zX xs (i + 1))), .int (zi (zX xs (i + 2)))]) rfl rfl hl.1 rfl (lv_room (Nat.le_of_ble_eq_true rfl)) d_L_law_612 ⟨Nat.le_of_ble_eq_true rfl, Nat.le_of_ble_eq_true rfl⟩) ?_
  have hRR := hR
  refine lv_icmp_eq (tgt := 801) hx hb d_L_law_615 (by decide) (fun _ => ?_) (fun c9 => absurd (by rw [(E_setBack hR (zX xs (i + 1)) (zX xs (i + 2)) (zB.w (zX_b xs (i + 1)) (by decide) (by decide)) (zB.w (zX_b xs (i + 2)) (by decide) (by decide)))]) c9)
  exact nx _ _ ls ⟨S, N, k0, k1, k2, k3, j0, j1, j2, j3, hRR, hk0, hk1, hk2, hk3, hj0, hj1', hj2', hj3, hP, hM⟩ hS hl
set_option maxHeartbeats 4000000 in
set_option maxRecDepth 100000 in
theorem law_allowed {p : Program} {l : Launch} {e : Env} {s : State} {m : MethodId} {below : List Frame} {meth : Method} {c : Code} {dC : Nat → ClassId} {dI : Nat → Nat → Nat} {cI : ClassId} {ad ae : Nat → Nat} {b L : Nat} {xs : Nat → Int32} (hL : L ≤ 3072) (C0 : lw_At p s m meth c b L xs) (G0 : zG2 dC dI cI ad ae s) (i : Int) (hi0 : 0 ≤ i) (hi1 : i + 6 ≤ (L : Int)) (nx : ∀ (H : Heap) (locs : List Loc) (ls : Array Slot), zI2 dC dI cI ad ae s H → va_S (fun q : Nat => s.heap.size ≤ q) s.heap H locs → lv_has ls 4 [(0, .ref b), (1, .ref (ad 0)), (2, .ref (ae 0)), (3, .int (zi i))] → W p l e room_1 s m #[Value.ref b] below meth c H locs 21 960 (lw_Z below #[Value.ref b] s) (F0 m 801 ls [])) (H : Heap) (locs : List Loc) (ls : Array Slot) (hI2 : zI2 dC dI cI ad ae s H) (hS : va_S (fun q : Nat => s.heap.size ≤ q) s.heap H locs) (hl : lv_has ls 4 [(0, .ref b), (1, .ref (ad 0)), (2, .ref (ae 0)), (3, .int (zi i))]) : W p l e room_1 s m #[Value.ref b] below meth c H locs 21 960 (lw_Z below #[Value.ref b] s) (F0 m 620 ls []) := by
  obtain ⟨hx, hb, hr, hml, hown, hts, hX, hbl, hlocks, hgv⟩ := C0
  have hw : ∀ w9 ∈ zT, w9.before #[Value.ref b] s = true := fun w9 h => hts w9 (zT_in h)
  obtain ⟨hj1, hj2, hge1, hge2, hdis, hdis2, hK, hN⟩ := G0
  have hbA : ¬ (fun q : Nat => s.heap.size ≤ q) b := Nat.not_le.mpr hbl
  obtain ⟨S, N, k0, k1, k2, k3, j0, j1, j2, j3, hR, hk0, hk1, hk2, hk3, hj0, hj1', hj2', hj3, hP, hM⟩ := hI2
  have hIS := hR.1
  have hIN := hR.2.1
  refine lv_aload_n hx hb d_L_law_620 rfl (lv_at hl 1 rfl) ?_
  refine lv_aload_n hx hb d_L_law_621 rfl (lv_at hl 0 rfl) ?_
  refine lv_iload_n hx hb d_L_law_622 rfl (lv_at hl 3 rfl) ?_
  refine lv_iconst (v := zi 1) hx hb d_L_law_623 rfl ?_
  refine zr_iadd hx hb d_L_law_624 ?_
  refine zr_sld hx hb hX hbl hbA hS (i := i + 1) (by omega) (by omega) (by omega) d_L_law_625 ?_
  refine lv_aload_n hx hb d_L_law_626 rfl (lv_at hl 0 rfl) ?_
  refine lv_iload_n hx hb d_L_law_627 rfl (lv_at hl 3 rfl) ?_
  refine lv_iconst (v := zi 2) hx hb d_L_law_628 rfl ?_
  refine zr_iadd hx hb d_L_law_629 ?_
  refine zr_sld hx hb hX hbl hbA hS (i := i + 2) (by omega) (by omega) (by omega) d_L_law_630 ?_
  refine zr_if_eq (tgt := 638) hx hb (zB.I (zX_b xs (i + 2)) (by decide) (by decide)) d_L_law_631 (by decide) (fun c44 => ?_) (fun c44 => ?_)
  · refine lv_iconst (v := zi 0) hx hb d_L_law_638 rfl ?_
    refine zc_w (va_runV (As := [.int (zi (zX xs (i + 1))), .int (zi (0))]) (rest := []) ⟨hx, hb, hml, hown, hts⟩ (k_S_allowed l dC dI ad cI S k0 k1 k2 k3 hIS hj1 hk0 hk1 hk2 hk3 (zX xs (i + 1)) (0) (zB.w (zX_b xs (i + 1)) (by decide) (by decide)) (zB.w (zb_c 0) (by decide) (by decide))) (zlV 2 hts m_194 m_1 m_191 m_192 m_193 rfl rfl q_S_allowed ⟨Nat.le_of_ble_eq_true rfl, Nat.le_of_ble_eq_true rfl⟩) (zpS0 hP hK hN [.int (zi (zX xs (i + 1))), .int (zi (0))]) rfl rfl hl.1 rfl (lv_room (Nat.le_of_ble_eq_true rfl)) d_L_law_639 ⟨Nat.le_of_ble_eq_true rfl, Nat.le_of_ble_eq_true rfl⟩) hS (fun q _ h => hge1 q h) (fun q h => hge1 q h) (fun H1 locs hQ hz1 hk9 hS => ?_)
    obtain ⟨n45, n46, n47, n48, hn45, hn46, hn47, hn48, hQ⟩ := hQ
    have hM' := zkeep (zDM hj2 cI N j0 j1 j2 j3) hM hdis hk9
    clear hP hM
    have hP := hQ
    have hM := hM'
    clear hQ hM' hk9 hz1
    generalize H1 = H at hP hM hS ⊢
    refine lv_aload_n hx hb d_L_law_642 rfl (lv_at hl 2 rfl) ?_
    refine lv_aload_n hx hb d_L_law_643 rfl (lv_at hl 0 rfl) ?_
    refine lv_iload_n hx hb d_L_law_644 rfl (lv_at hl 3 rfl) ?_
    refine lv_iconst (v := zi 1) hx hb d_L_law_645 rfl ?_
    refine zr_iadd hx hb d_L_law_646 ?_
    refine zr_sld hx hb hX hbl hbA hS (i := i + 1) (by omega) (by omega) (by omega) d_L_law_647 ?_
    refine lv_aload_n hx hb d_L_law_648 rfl (lv_at hl 0 rfl) ?_
    refine lv_iload_n hx hb d_L_law_649 rfl (lv_at hl 3 rfl) ?_
    refine lv_iconst (v := zi 2) hx hb d_L_law_650 rfl ?_
    refine zr_iadd hx hb d_L_law_651 ?_
    refine zr_sld hx hb hX hbl hbA hS (i := i + 2) (by omega) (by omega) (by omega) d_L_law_652 ?_
    refine zr_if_eq (tgt := 660) hx hb (zB.I (zX_b xs (i + 2)) (by decide) (by decide)) d_L_law_653 (by decide) (fun _ => ?_) (fun cz => absurd c44 cz)
    refine lv_iconst (v := zi 0) hx hb d_L_law_660 rfl ?_
    refine zc_w (va_runV (As := [.int (zi (zX xs (i + 1))), .int (zi (0))]) (rest := [.int (zi (f_S_allowed S (zX xs (i + 1)) (0)))]) ⟨hx, hb, hml, hown, hts⟩ (k_M_allowed l dC dI ae cI N j0 j1 j2 j3 hIN hj2 hj0 hj1' hj2' hj3 (zX xs (i + 1)) (0) (zB.w (zX_b xs (i + 1)) (by decide) (by decide)) (zB.w (zb_c 0) (by decide) (by decide))) (zlV 2 hts m_353 m_3 m_350 m_351 m_352 rfl rfl q_M_allowed ⟨Nat.le_of_ble_eq_true rfl, Nat.le_of_ble_eq_true rfl⟩) (zpM0 hM hK [.int (zi (zX xs (i + 1))), .int (zi (0))]) rfl rfl hl.1 rfl (lv_room (Nat.le_of_ble_eq_true rfl)) d_L_law_661 ⟨Nat.le_of_ble_eq_true rfl, Nat.le_of_ble_eq_true rfl⟩) hS (fun q _ h => hge2 q h) (fun q h => hge2 q h) (fun H1 locs hQ hz1 hk9 hS => ?_)
    obtain ⟨n49, n50, n51, n52, hn49, hn50, hn51, hn52, hQ⟩ := hQ
    have hP' := zkeep (zDS hj1 cI S n45 n46 n47 n48) hP hdis2 hk9
    clear hP hM
    have hM := hQ
    have hP := hP'
    clear hQ hP' hk9 hz1
    generalize H1 = H at hP hM hS ⊢
    have hRR := hR
    refine lv_icmp_eq (tgt := 801) hx hb d_L_law_664 (by decide) (fun _ => ?_) (fun c9 => absurd (by rw [(E_allowed hR (zX xs (i + 1)) (0) (zB.w (zX_b xs (i + 1)) (by decide) (by decide)) (zB.w (zb_c 0) (by decide) (by decide)))]) c9)
    exact nx _ _ ls ⟨S, N, n45, n46, n47, n48, n49, n50, n51, n52, hRR, hn45, hn46, hn47, hn48, hn49, hn50, hn51, hn52, hP, hM⟩ hS hl
  · refine lv_iconst (v := zi 1) hx hb d_L_law_634 rfl ?_
    refine lv_goto (tgt := 639) hx hb d_L_law_635 (by decide) ?_
    refine zc_w (va_runV (As := [.int (zi (zX xs (i + 1))), .int (zi (1))]) (rest := []) ⟨hx, hb, hml, hown, hts⟩ (k_S_allowed l dC dI ad cI S k0 k1 k2 k3 hIS hj1 hk0 hk1 hk2 hk3 (zX xs (i + 1)) (1) (zB.w (zX_b xs (i + 1)) (by decide) (by decide)) (zB.w (zb_c 1) (by decide) (by decide))) (zlV 2 hts m_194 m_1 m_191 m_192 m_193 rfl rfl q_S_allowed ⟨Nat.le_of_ble_eq_true rfl, Nat.le_of_ble_eq_true rfl⟩) (zpS0 hP hK hN [.int (zi (zX xs (i + 1))), .int (zi (1))]) rfl rfl hl.1 rfl (lv_room (Nat.le_of_ble_eq_true rfl)) d_L_law_639 ⟨Nat.le_of_ble_eq_true rfl, Nat.le_of_ble_eq_true rfl⟩) hS (fun q _ h => hge1 q h) (fun q h => hge1 q h) (fun H1 locs hQ hz1 hk9 hS => ?_)
    obtain ⟨n53, n54, n55, n56, hn53, hn54, hn55, hn56, hQ⟩ := hQ
    have hM' := zkeep (zDM hj2 cI N j0 j1 j2 j3) hM hdis hk9
    clear hP hM
    have hP := hQ
    have hM := hM'
    clear hQ hM' hk9 hz1
    generalize H1 = H at hP hM hS ⊢
    refine lv_aload_n hx hb d_L_law_642 rfl (lv_at hl 2 rfl) ?_
    refine lv_aload_n hx hb d_L_law_643 rfl (lv_at hl 0 rfl) ?_
    refine lv_iload_n hx hb d_L_law_644 rfl (lv_at hl 3 rfl) ?_
    refine lv_iconst (v := zi 1) hx hb d_L_law_645 rfl ?_
    refine zr_iadd hx hb d_L_law_646 ?_
    refine zr_sld hx hb hX hbl hbA hS (i := i + 1) (by omega) (by omega) (by omega) d_L_law_647 ?_
    refine lv_aload_n hx hb d_L_law_648 rfl (lv_at hl 0 rfl) ?_
    refine lv_iload_n hx hb d_L_law_649 rfl (lv_at hl 3 rfl) ?_
    refine lv_iconst (v := zi 2) hx hb d_L_law_650 rfl ?_
    refine zr_iadd hx hb d_L_law_651 ?_
    refine zr_sld hx hb hX hbl hbA hS (i := i + 2) (by omega) (by omega) (by omega) d_L_law_652 ?_
    refine zr_if_eq (tgt := 660) hx hb (zB.I (zX_b xs (i + 2)) (by decide) (by decide)) d_L_law_653 (by decide) (fun cz => absurd cz c44) (fun _ => ?_)
    refine lv_iconst (v := zi 1) hx hb d_L_law_656 rfl ?_
    refine lv_goto (tgt := 661) hx hb d_L_law_657 (by decide) ?_
    refine zc_w (va_runV (As := [.int (zi (zX xs (i + 1))), .int (zi (1))]) (rest := [.int (zi (f_S_allowed S (zX xs (i + 1)) (1)))]) ⟨hx, hb, hml, hown, hts⟩ (k_M_allowed l dC dI ae cI N j0 j1 j2 j3 hIN hj2 hj0 hj1' hj2' hj3 (zX xs (i + 1)) (1) (zB.w (zX_b xs (i + 1)) (by decide) (by decide)) (zB.w (zb_c 1) (by decide) (by decide))) (zlV 2 hts m_353 m_3 m_350 m_351 m_352 rfl rfl q_M_allowed ⟨Nat.le_of_ble_eq_true rfl, Nat.le_of_ble_eq_true rfl⟩) (zpM0 hM hK [.int (zi (zX xs (i + 1))), .int (zi (1))]) rfl rfl hl.1 rfl (lv_room (Nat.le_of_ble_eq_true rfl)) d_L_law_661 ⟨Nat.le_of_ble_eq_true rfl, Nat.le_of_ble_eq_true rfl⟩) hS (fun q _ h => hge2 q h) (fun q h => hge2 q h) (fun H1 locs hQ hz1 hk9 hS => ?_)
    obtain ⟨n57, n58, n59, n60, hn57, hn58, hn59, hn60, hQ⟩ := hQ
    have hP' := zkeep (zDS hj1 cI S n53 n54 n55 n56) hP hdis2 hk9
    clear hP hM
    have hM := hQ
    have hP := hP'
    clear hQ hP' hk9 hz1
    generalize H1 = H at hP hM hS ⊢
    have hRR := hR
    refine lv_icmp_eq (tgt := 801) hx hb d_L_law_664 (by decide) (fun _ => ?_) (fun c9 => absurd (by rw [(E_allowed hR (zX xs (i + 1)) (1) (zB.w (zX_b xs (i + 1)) (by decide) (by decide)) (zB.w (zb_c 1) (by decide) (by decide)))]) c9)
    exact nx _ _ ls ⟨S, N, n53, n54, n55, n56, n57, n58, n59, n60, hRR, hn53, hn54, hn55, hn56, hn57, hn58, hn59, hn60, hP, hM⟩ hS hl
set_option maxHeartbeats 4000000 in
set_option maxRecDepth 100000 in
theorem law_overtake {p : Program} {l : Launch} {e : Env} {s : State} {m : MethodId} {below : List Frame} {meth : Method} {c : Code} {dC : Nat → ClassId} {dI : Nat → Nat → Nat} {cI : ClassId} {ad ae : Nat → Nat} {b L : Nat} {xs : Nat → Int32} (hL : L ≤ 3072) (C0 : lw_At p s m meth c b L xs) (G0 : zG2 dC dI cI ad ae s) (i : Int) (hi0 : 0 ≤ i) (hi1 : i + 6 ≤ (L : Int)) (nx : ∀ (H : Heap) (locs : List Loc) (ls : Array Slot), zI2 dC dI cI ad ae s H → va_S (fun q : Nat => s.heap.size ≤ q) s.heap H locs → lv_has ls 4 [(0, .ref b), (1, .ref (ad 0)), (2, .ref (ae 0)), (3, .int (zi i))] → W p l e room_1 s m #[Value.ref b] below meth c H locs 21 960 (lw_Z below #[Value.ref b] s) (F0 m 801 ls [])) (H : Heap) (locs : List Loc) (ls : Array Slot) (hI2 : zI2 dC dI cI ad ae s H) (hS : va_S (fun q : Nat => s.heap.size ≤ q) s.heap H locs) (hl : lv_has ls 4 [(0, .ref b), (1, .ref (ad 0)), (2, .ref (ae 0)), (3, .int (zi i))]) : W p l e room_1 s m #[Value.ref b] below meth c H locs 21 960 (lw_Z below #[Value.ref b] s) (F0 m 669 ls []) := by
  obtain ⟨hx, hb, hr, hml, hown, hts, hX, hbl, hlocks, hgv⟩ := C0
  have hw : ∀ w9 ∈ zT, w9.before #[Value.ref b] s = true := fun w9 h => hts w9 (zT_in h)
  obtain ⟨hj1, hj2, hge1, hge2, hdis, hdis2, hK, hN⟩ := G0
  have hbA : ¬ (fun q : Nat => s.heap.size ≤ q) b := Nat.not_le.mpr hbl
  obtain ⟨S, N, k0, k1, k2, k3, j0, j1, j2, j3, hR, hk0, hk1, hk2, hk3, hj0, hj1', hj2', hj3, hP, hM⟩ := hI2
  have hIS := hR.1
  have hIN := hR.2.1
  refine lv_aload_n hx hb d_L_law_669 rfl (lv_at hl 1 rfl) ?_
  refine lv_aload_n hx hb d_L_law_670 rfl (lv_at hl 0 rfl) ?_
  refine lv_iload_n hx hb d_L_law_671 rfl (lv_at hl 3 rfl) ?_
  refine lv_iconst (v := zi 1) hx hb d_L_law_672 rfl ?_
  refine zr_iadd hx hb d_L_law_673 ?_
  refine zr_sld hx hb hX hbl hbA hS (i := i + 1) (by omega) (by omega) (by omega) d_L_law_674 ?_
  refine zc_w (va_runV (As := [.int (zi (zX xs (i + 1)))]) (rest := []) ⟨hx, hb, hml, hown, hts⟩ (k_S_overtake l dC dI ad cI S k0 k1 k2 k3 hIS hj1 hk0 hk1 hk2 hk3 (zX xs (i + 1)) (zB.w (zX_b xs (i + 1)) (by decide) (by decide))) (zlV 1 hts m_198 m_1 m_195 m_196 m_197 rfl rfl q_S_overtake ⟨Nat.le_of_ble_eq_true rfl, Nat.le_of_ble_eq_true rfl⟩) (zpS0 hP hK hN [.int (zi (zX xs (i + 1)))]) rfl rfl hl.1 rfl (lv_room (Nat.le_of_ble_eq_true rfl)) d_L_law_675 ⟨Nat.le_of_ble_eq_true rfl, Nat.le_of_ble_eq_true rfl⟩) hS (fun q _ h => hge1 q h) (fun q h => hge1 q h) (fun H1 locs hQ hz1 hk9 hS => ?_)
  obtain ⟨n61, n62, n63, n64, hn61, hn62, hn63, hn64, hQ⟩ := hQ
  have hM' := zkeep (zDM hj2 cI N j0 j1 j2 j3) hM hdis hk9
  clear hP hM
  have hP := hQ
  have hM := hM'
  clear hQ hM' hk9 hz1
  generalize H1 = H at hP hM hS ⊢
  refine lv_aload_n hx hb d_L_law_678 rfl (lv_at hl 2 rfl) ?_
  refine lv_aload_n hx hb d_L_law_679 rfl (lv_at hl 0 rfl) ?_
  refine lv_iload_n hx hb d_L_law_680 rfl (lv_at hl 3 rfl) ?_
  refine lv_iconst (v := zi 1) hx hb d_L_law_681 rfl ?_
  refine zr_iadd hx hb d_L_law_682 ?_
  refine zr_sld hx hb hX hbl hbA hS (i := i + 1) (by omega) (by omega) (by omega) d_L_law_683 ?_
  refine zc_w (va_runV (As := [.int (zi (zX xs (i + 1)))]) (rest := [.int (zi (f_S_overtake S (zX xs (i + 1))))]) ⟨hx, hb, hml, hown, hts⟩ (k_M_overtake l dC dI ae cI N j0 j1 j2 j3 hIN hj2 hj0 hj1' hj2' hj3 (zX xs (i + 1)) (zB.w (zX_b xs (i + 1)) (by decide) (by decide))) (zlV 1 hts m_357 m_3 m_354 m_355 m_356 rfl rfl q_M_overtake ⟨Nat.le_of_ble_eq_true rfl, Nat.le_of_ble_eq_true rfl⟩) (zpM0 hM hK [.int (zi (zX xs (i + 1)))]) rfl rfl hl.1 rfl (lv_room (Nat.le_of_ble_eq_true rfl)) d_L_law_684 ⟨Nat.le_of_ble_eq_true rfl, Nat.le_of_ble_eq_true rfl⟩) hS (fun q _ h => hge2 q h) (fun q h => hge2 q h) (fun H1 locs hQ hz1 hk9 hS => ?_)
  obtain ⟨n65, n66, n67, n68, hn65, hn66, hn67, hn68, hQ⟩ := hQ
  have hP' := zkeep (zDS hj1 cI S n61 n62 n63 n64) hP hdis2 hk9
  clear hP hM
  have hM := hQ
  have hP := hP'
  clear hQ hP' hk9 hz1
  generalize H1 = H at hP hM hS ⊢
  have hRR := hR
  refine lv_icmp_eq (tgt := 801) hx hb d_L_law_687 (by decide) (fun _ => ?_) (fun c9 => absurd (by rw [(E_overtake hR (zX xs (i + 1)) (zB.w (zX_b xs (i + 1)) (by decide) (by decide)))]) c9)
  exact nx _ _ ls ⟨S, N, n61, n62, n63, n64, n65, n66, n67, n68, hRR, hn61, hn62, hn63, hn64, hn65, hn66, hn67, hn68, hP, hM⟩ hS hl
set_option maxHeartbeats 4000000 in
set_option maxRecDepth 100000 in
theorem law_seen {p : Program} {l : Launch} {e : Env} {s : State} {m : MethodId} {below : List Frame} {meth : Method} {c : Code} {dC : Nat → ClassId} {dI : Nat → Nat → Nat} {cI : ClassId} {ad ae : Nat → Nat} {b L : Nat} {xs : Nat → Int32} (hL : L ≤ 3072) (C0 : lw_At p s m meth c b L xs) (G0 : zG2 dC dI cI ad ae s) (i : Int) (hi0 : 0 ≤ i) (hi1 : i + 6 ≤ (L : Int)) (nx : ∀ (H : Heap) (locs : List Loc) (ls : Array Slot), zI2 dC dI cI ad ae s H → va_S (fun q : Nat => s.heap.size ≤ q) s.heap H locs → lv_has ls 4 [(0, .ref b), (1, .ref (ad 0)), (2, .ref (ae 0)), (3, .int (zi i))] → W p l e room_1 s m #[Value.ref b] below meth c H locs 21 960 (lw_Z below #[Value.ref b] s) (F0 m 801 ls [])) (H : Heap) (locs : List Loc) (ls : Array Slot) (hI2 : zI2 dC dI cI ad ae s H) (hS : va_S (fun q : Nat => s.heap.size ≤ q) s.heap H locs) (hl : lv_has ls 4 [(0, .ref b), (1, .ref (ad 0)), (2, .ref (ae 0)), (3, .int (zi i))]) : W p l e room_1 s m #[Value.ref b] below meth c H locs 21 960 (lw_Z below #[Value.ref b] s) (F0 m 692 ls []) := by
  obtain ⟨hx, hb, hr, hml, hown, hts, hX, hbl, hlocks, hgv⟩ := C0
  have hw : ∀ w9 ∈ zT, w9.before #[Value.ref b] s = true := fun w9 h => hts w9 (zT_in h)
  obtain ⟨hj1, hj2, hge1, hge2, hdis, hdis2, hK, hN⟩ := G0
  have hbA : ¬ (fun q : Nat => s.heap.size ≤ q) b := Nat.not_le.mpr hbl
  obtain ⟨S, N, k0, k1, k2, k3, j0, j1, j2, j3, hR, hk0, hk1, hk2, hk3, hj0, hj1', hj2', hj3, hP, hM⟩ := hI2
  have hIS := hR.1
  have hIN := hR.2.1
  refine lv_aload_n hx hb d_L_law_692 rfl (lv_at hl 1 rfl) ?_
  refine lv_aload_n hx hb d_L_law_693 rfl (lv_at hl 0 rfl) ?_
  refine lv_iload_n hx hb d_L_law_694 rfl (lv_at hl 3 rfl) ?_
  refine lv_iconst (v := zi 1) hx hb d_L_law_695 rfl ?_
  refine zr_iadd hx hb d_L_law_696 ?_
  refine zr_sld hx hb hX hbl hbA hS (i := i + 1) (by omega) (by omega) (by omega) d_L_law_697 ?_
  refine lv_aload_n hx hb d_L_law_698 rfl (lv_at hl 0 rfl) ?_
  refine lv_iload_n hx hb d_L_law_699 rfl (lv_at hl 3 rfl) ?_
  refine lv_iconst (v := zi 2) hx hb d_L_law_700 rfl ?_
  refine zr_iadd hx hb d_L_law_701 ?_
  refine zr_sld hx hb hX hbl hbA hS (i := i + 2) (by omega) (by omega) (by omega) d_L_law_702 ?_
  refine lv_aload_n hx hb d_L_law_703 rfl (lv_at hl 0 rfl) ?_
  refine lv_iload_n hx hb d_L_law_704 rfl (lv_at hl 3 rfl) ?_
  refine lv_iconst (v := zi 3) hx hb d_L_law_705 rfl ?_
  refine zr_iadd hx hb d_L_law_706 ?_
  refine zr_sld hx hb hX hbl hbA hS (i := i + 3) (by omega) (by omega) (by omega) d_L_law_707 ?_
  refine zc_w (va_runV (As := [.int (zi (zX xs (i + 1))), .int (zi (zX xs (i + 2))), .int (zi (zX xs (i + 3)))]) (rest := []) ⟨hx, hb, hml, hown, hts⟩ (k_S_seen l dC dI ad cI S k0 k1 k2 k3 hIS hj1 hk0 hk1 hk2 hk3 (zX xs (i + 1)) (zX xs (i + 2)) (zX xs (i + 3)) (zB.w (zX_b xs (i + 1)) (by decide) (by decide)) (zB.w (zX_b xs (i + 2)) (by decide) (by decide)) (zB.w (zX_b xs (i + 3)) (by decide) (by decide))) (zlV 3 hts m_203 m_1 m_200 m_201 m_202 rfl rfl q_S_seen ⟨Nat.le_of_ble_eq_true rfl, Nat.le_of_ble_eq_true rfl⟩) (zpS0 hP hK hN [.int (zi (zX xs (i + 1))), .int (zi (zX xs (i + 2))), .int (zi (zX xs (i + 3)))]) rfl rfl hl.1 rfl (lv_room (Nat.le_of_ble_eq_true rfl)) d_L_law_708 ⟨Nat.le_of_ble_eq_true rfl, Nat.le_of_ble_eq_true rfl⟩) hS (fun q _ h => hge1 q h) (fun q h => hge1 q h) (fun H1 locs hQ hz1 hk9 hS => ?_)
  obtain ⟨n69, n70, n71, n72, hn69, hn70, hn71, hn72, hQ⟩ := hQ
  have hM' := zkeep (zDM hj2 cI N j0 j1 j2 j3) hM hdis hk9
  clear hP hM
  have hP := hQ
  have hM := hM'
  clear hQ hM' hk9 hz1
  generalize H1 = H at hP hM hS ⊢
  refine lv_aload_n hx hb d_L_law_711 rfl (lv_at hl 2 rfl) ?_
  refine lv_aload_n hx hb d_L_law_712 rfl (lv_at hl 0 rfl) ?_
  refine lv_iload_n hx hb d_L_law_713 rfl (lv_at hl 3 rfl) ?_
  refine lv_iconst (v := zi 1) hx hb d_L_law_714 rfl ?_
  refine zr_iadd hx hb d_L_law_715 ?_
  refine zr_sld hx hb hX hbl hbA hS (i := i + 1) (by omega) (by omega) (by omega) d_L_law_716 ?_
  refine lv_aload_n hx hb d_L_law_717 rfl (lv_at hl 0 rfl) ?_
  refine lv_iload_n hx hb d_L_law_718 rfl (lv_at hl 3 rfl) ?_
  refine lv_iconst (v := zi 2) hx hb d_L_law_719 rfl ?_
  refine zr_iadd hx hb d_L_law_720 ?_
  refine zr_sld hx hb hX hbl hbA hS (i := i + 2) (by omega) (by omega) (by omega) d_L_law_721 ?_
  refine lv_aload_n hx hb d_L_law_722 rfl (lv_at hl 0 rfl) ?_
  refine lv_iload_n hx hb d_L_law_723 rfl (lv_at hl 3 rfl) ?_
  refine lv_iconst (v := zi 3) hx hb d_L_law_724 rfl ?_
  refine zr_iadd hx hb d_L_law_725 ?_
  refine zr_sld hx hb hX hbl hbA hS (i := i + 3) (by omega) (by omega) (by omega) d_L_law_726 ?_
  refine zc_w (va_runV (As := [.int (zi (zX xs (i + 1))), .int (zi (zX xs (i + 2))), .int (zi (zX xs (i + 3)))]) (rest := [.int (zi (f_S_seen S (zX xs (i + 1)) (zX xs (i + 2)) (zX xs (i + 3))))]) ⟨hx, hb, hml, hown, hts⟩ (k_M_seen l dC dI ae cI N j0 j1 j2 j3 hIN hj2 hj0 hj1' hj2' hj3 (zX xs (i + 1)) (zX xs (i + 2)) (zX xs (i + 3)) (zB.w (zX_b xs (i + 1)) (by decide) (by decide)) (zB.w (zX_b xs (i + 2)) (by decide) (by decide)) (zB.w (zX_b xs (i + 3)) (by decide) (by decide))) (zlV 3 hts m_362 m_3 m_359 m_360 m_361 rfl rfl q_M_seen ⟨Nat.le_of_ble_eq_true rfl, Nat.le_of_ble_eq_true rfl⟩) (zpM0 hM hK [.int (zi (zX xs (i + 1))), .int (zi (zX xs (i + 2))), .int (zi (zX xs (i + 3)))]) rfl rfl hl.1 rfl (lv_room (Nat.le_of_ble_eq_true rfl)) d_L_law_727 ⟨Nat.le_of_ble_eq_true rfl, Nat.le_of_ble_eq_true rfl⟩) hS (fun q _ h => hge2 q h) (fun q h => hge2 q h) (fun H1 locs hQ hz1 hk9 hS => ?_)
  obtain ⟨n73, n74, n75, n76, hn73, hn74, hn75, hn76, hQ⟩ := hQ
  have hP' := zkeep (zDS hj1 cI S n69 n70 n71 n72) hP hdis2 hk9
  clear hP hM
  have hM := hQ
  have hP := hP'
  clear hQ hP' hk9 hz1
  generalize H1 = H at hP hM hS ⊢
  have hRR := hR
  refine lv_icmp_eq (tgt := 801) hx hb d_L_law_730 (by decide) (fun _ => ?_) (fun c9 => absurd (by rw [(E_seen hR (zX xs (i + 1)) (zX xs (i + 2)) (zX xs (i + 3)) (zB.w (zX_b xs (i + 1)) (by decide) (by decide)) (zB.w (zX_b xs (i + 2)) (by decide) (by decide)) (zB.w (zX_b xs (i + 3)) (by decide) (by decide)))]) c9)
  exact nx _ _ ls ⟨S, N, n69, n70, n71, n72, n73, n74, n75, n76, hRR, hn69, hn70, hn71, hn72, hn73, hn74, hn75, hn76, hP, hM⟩ hS hl
set_option maxHeartbeats 4000000 in
set_option maxRecDepth 100000 in
theorem law_light {p : Program} {l : Launch} {e : Env} {s : State} {m : MethodId} {below : List Frame} {meth : Method} {c : Code} {dC : Nat → ClassId} {dI : Nat → Nat → Nat} {cI : ClassId} {ad ae : Nat → Nat} {b L : Nat} {xs : Nat → Int32} (hL : L ≤ 3072) (C0 : lw_At p s m meth c b L xs) (G0 : zG2 dC dI cI ad ae s) (i : Int) (hi0 : 0 ≤ i) (hi1 : i + 6 ≤ (L : Int)) (nx : ∀ (H : Heap) (locs : List Loc) (ls : Array Slot), zI2 dC dI cI ad ae s H → va_S (fun q : Nat => s.heap.size ≤ q) s.heap H locs → lv_has ls 4 [(0, .ref b), (1, .ref (ad 0)), (2, .ref (ae 0)), (3, .int (zi i))] → W p l e room_1 s m #[Value.ref b] below meth c H locs 21 960 (lw_Z below #[Value.ref b] s) (F0 m 801 ls [])) (H : Heap) (locs : List Loc) (ls : Array Slot) (hI2 : zI2 dC dI cI ad ae s H) (hS : va_S (fun q : Nat => s.heap.size ≤ q) s.heap H locs) (hl : lv_has ls 4 [(0, .ref b), (1, .ref (ad 0)), (2, .ref (ae 0)), (3, .int (zi i))]) : W p l e room_1 s m #[Value.ref b] below meth c H locs 21 960 (lw_Z below #[Value.ref b] s) (F0 m 735 ls []) := by
  obtain ⟨hx, hb, hr, hml, hown, hts, hX, hbl, hlocks, hgv⟩ := C0
  have hw : ∀ w9 ∈ zT, w9.before #[Value.ref b] s = true := fun w9 h => hts w9 (zT_in h)
  obtain ⟨hj1, hj2, hge1, hge2, hdis, hdis2, hK, hN⟩ := G0
  have hbA : ¬ (fun q : Nat => s.heap.size ≤ q) b := Nat.not_le.mpr hbl
  obtain ⟨S, N, k0, k1, k2, k3, j0, j1, j2, j3, hR, hk0, hk1, hk2, hk3, hj0, hj1', hj2', hj3, hP, hM⟩ := hI2
  have hIS := hR.1
  have hIN := hR.2.1
  refine lv_aload_n hx hb d_L_law_735 rfl (lv_at hl 1 rfl) ?_
  refine lv_aload_n hx hb d_L_law_736 rfl (lv_at hl 0 rfl) ?_
  refine lv_iload_n hx hb d_L_law_737 rfl (lv_at hl 3 rfl) ?_
  refine lv_iconst (v := zi 1) hx hb d_L_law_738 rfl ?_
  refine zr_iadd hx hb d_L_law_739 ?_
  refine zr_sld hx hb hX hbl hbA hS (i := i + 1) (by omega) (by omega) (by omega) d_L_law_740 ?_
  refine lv_aload_n hx hb d_L_law_741 rfl (lv_at hl 0 rfl) ?_
  refine lv_iload_n hx hb d_L_law_742 rfl (lv_at hl 3 rfl) ?_
  refine lv_iconst (v := zi 2) hx hb d_L_law_743 rfl ?_
  refine zr_iadd hx hb d_L_law_744 ?_
  refine zr_sld hx hb hX hbl hbA hS (i := i + 2) (by omega) (by omega) (by omega) d_L_law_745 ?_
  refine lv_aload_n hx hb d_L_law_746 rfl (lv_at hl 0 rfl) ?_
  refine lv_iload_n hx hb d_L_law_747 rfl (lv_at hl 3 rfl) ?_
  refine lv_iconst (v := zi 3) hx hb d_L_law_748 rfl ?_
  refine zr_iadd hx hb d_L_law_749 ?_
  refine zr_sld hx hb hX hbl hbA hS (i := i + 3) (by omega) (by omega) (by omega) d_L_law_750 ?_
  refine zc_n (va_runV (As := [.int (zi (zX xs (i + 1))), .int (zi (zX xs (i + 2))), .int (zi (zX xs (i + 3)))]) (rest := []) ⟨hx, hb, hml, hown, hts⟩ (k_S_light l dC dI ad cI S k0 k1 k2 k3 hIS (zX xs (i + 1)) (zX xs (i + 2)) (zX xs (i + 3)) (zB.w (zX_b xs (i + 1)) (by decide) (by decide)) (zB.w (zX_b xs (i + 2)) (by decide) (by decide)) (zB.w (zX_b xs (i + 3)) (by decide) (by decide))) (zlV 3 hts m_208 m_1 m_205 m_206 m_207 rfl rfl q_S_light ⟨Nat.le_of_ble_eq_true rfl, Nat.le_of_ble_eq_true rfl⟩) (zpS0 hP hK hN [.int (zi (zX xs (i + 1))), .int (zi (zX xs (i + 2))), .int (zi (zX xs (i + 3)))]) rfl rfl hl.1 rfl (lv_room (Nat.le_of_ble_eq_true rfl)) d_L_law_751 ⟨Nat.le_of_ble_eq_true rfl, Nat.le_of_ble_eq_true rfl⟩) ?_
  refine lv_aload_n hx hb d_L_law_754 rfl (lv_at hl 2 rfl) ?_
  refine lv_aload_n hx hb d_L_law_755 rfl (lv_at hl 0 rfl) ?_
  refine lv_iload_n hx hb d_L_law_756 rfl (lv_at hl 3 rfl) ?_
  refine lv_iconst (v := zi 1) hx hb d_L_law_757 rfl ?_
  refine zr_iadd hx hb d_L_law_758 ?_
  refine zr_sld hx hb hX hbl hbA hS (i := i + 1) (by omega) (by omega) (by omega) d_L_law_759 ?_
  refine lv_aload_n hx hb d_L_law_760 rfl (lv_at hl 0 rfl) ?_
  refine lv_iload_n hx hb d_L_law_761 rfl (lv_at hl 3 rfl) ?_
  refine lv_iconst (v := zi 2) hx hb d_L_law_762 rfl ?_
  refine zr_iadd hx hb d_L_law_763 ?_
  refine zr_sld hx hb hX hbl hbA hS (i := i + 2) (by omega) (by omega) (by omega) d_L_law_764 ?_
  refine lv_aload_n hx hb d_L_law_765 rfl (lv_at hl 0 rfl) ?_
  refine lv_iload_n hx hb d_L_law_766 rfl (lv_at hl 3 rfl) ?_
  refine lv_iconst (v := zi 3) hx hb d_L_law_767 rfl ?_
  refine zr_iadd hx hb d_L_law_768 ?_
  refine zr_sld hx hb hX hbl hbA hS (i := i + 3) (by omega) (by omega) (by omega) d_L_law_769 ?_
  refine zc_n (va_runV (As := [.int (zi (zX xs (i + 1))), .int (zi (zX xs (i + 2))), .int (zi (zX xs (i + 3)))]) (rest := [.int (zi (f_S_light S (zX xs (i + 1)) (zX xs (i + 2)) (zX xs (i + 3))))]) ⟨hx, hb, hml, hown, hts⟩ (k_M_light l dC dI ae cI N j0 j1 j2 j3 hIN (zX xs (i + 1)) (zX xs (i + 2)) (zX xs (i + 3)) (zB.w (zX_b xs (i + 1)) (by decide) (by decide)) (zB.w (zX_b xs (i + 2)) (by decide) (by decide)) (zB.w (zX_b xs (i + 3)) (by decide) (by decide))) (zlV 3 hts m_367 m_3 m_364 m_365 m_366 rfl rfl q_M_light ⟨Nat.le_of_ble_eq_true rfl, Nat.le_of_ble_eq_true rfl⟩) (zpM0 hM hK [.int (zi (zX xs (i + 1))), .int (zi (zX xs (i + 2))), .int (zi (zX xs (i + 3)))]) rfl rfl hl.1 rfl (lv_room (Nat.le_of_ble_eq_true rfl)) d_L_law_770 ⟨Nat.le_of_ble_eq_true rfl, Nat.le_of_ble_eq_true rfl⟩) ?_
  have hRR := hR
  refine lv_icmp_eq (tgt := 801) hx hb d_L_law_773 (by decide) (fun _ => ?_) (fun c9 => absurd (by rw [(E_light hR (zX xs (i + 1)) (zX xs (i + 2)) (zX xs (i + 3)) (zB.w (zX_b xs (i + 1)) (by decide) (by decide)) (zB.w (zX_b xs (i + 2)) (by decide) (by decide)) (zB.w (zX_b xs (i + 3)) (by decide) (by decide)))]) c9)
  exact nx _ _ ls ⟨S, N, k0, k1, k2, k3, j0, j1, j2, j3, hRR, hk0, hk1, hk2, hk3, hj0, hj1', hj2', hj3, hP, hM⟩ hS hl
set_option maxHeartbeats 4000000 in
set_option maxRecDepth 100000 in
theorem law_count {p : Program} {l : Launch} {e : Env} {s : State} {m : MethodId} {below : List Frame} {meth : Method} {c : Code} {dC : Nat → ClassId} {dI : Nat → Nat → Nat} {cI : ClassId} {ad ae : Nat → Nat} {b L : Nat} {xs : Nat → Int32} (hL : L ≤ 3072) (C0 : lw_At p s m meth c b L xs) (G0 : zG2 dC dI cI ad ae s) (i : Int) (hi0 : 0 ≤ i) (hi1 : i + 6 ≤ (L : Int)) (nx : ∀ (H : Heap) (locs : List Loc) (ls : Array Slot), zI2 dC dI cI ad ae s H → va_S (fun q : Nat => s.heap.size ≤ q) s.heap H locs → lv_has ls 4 [(0, .ref b), (1, .ref (ad 0)), (2, .ref (ae 0)), (3, .int (zi i))] → W p l e room_1 s m #[Value.ref b] below meth c H locs 21 960 (lw_Z below #[Value.ref b] s) (F0 m 801 ls [])) (H : Heap) (locs : List Loc) (ls : Array Slot) (hI2 : zI2 dC dI cI ad ae s H) (hS : va_S (fun q : Nat => s.heap.size ≤ q) s.heap H locs) (hl : lv_has ls 4 [(0, .ref b), (1, .ref (ad 0)), (2, .ref (ae 0)), (3, .int (zi i))]) : W p l e room_1 s m #[Value.ref b] below meth c H locs 21 960 (lw_Z below #[Value.ref b] s) (F0 m 778 ls []) := by
  obtain ⟨hx, hb, hr, hml, hown, hts, hX, hbl, hlocks, hgv⟩ := C0
  have hw : ∀ w9 ∈ zT, w9.before #[Value.ref b] s = true := fun w9 h => hts w9 (zT_in h)
  obtain ⟨hj1, hj2, hge1, hge2, hdis, hdis2, hK, hN⟩ := G0
  have hbA : ¬ (fun q : Nat => s.heap.size ≤ q) b := Nat.not_le.mpr hbl
  obtain ⟨S, N, k0, k1, k2, k3, j0, j1, j2, j3, hR, hk0, hk1, hk2, hk3, hj0, hj1', hj2', hj3, hP, hM⟩ := hI2
  have hIS := hR.1
  have hIN := hR.2.1
  refine lv_aload_n hx hb d_L_law_778 rfl (lv_at hl 1 rfl) ?_
  refine lv_aload_n hx hb d_L_law_779 rfl (lv_at hl 0 rfl) ?_
  refine lv_iload_n hx hb d_L_law_780 rfl (lv_at hl 3 rfl) ?_
  refine lv_iconst (v := zi 1) hx hb d_L_law_781 rfl ?_
  refine zr_iadd hx hb d_L_law_782 ?_
  refine zr_sld hx hb hX hbl hbA hS (i := i + 1) (by omega) (by omega) (by omega) d_L_law_783 ?_
  refine zc_w (va_runV (As := [.int (zi (zX xs (i + 1)))]) (rest := []) ⟨hx, hb, hml, hown, hts⟩ (k_S_count l dC dI ad cI S k0 k1 k2 k3 hIS hj1 hk0 hk1 hk2 hk3 (zX xs (i + 1)) (zB.w (zX_b xs (i + 1)) (by decide) (by decide))) (zlV 1 hts m_213 m_1 m_210 m_211 m_212 rfl rfl q_S_count ⟨Nat.le_of_ble_eq_true rfl, Nat.le_of_ble_eq_true rfl⟩) (zpS0 hP hK hN [.int (zi (zX xs (i + 1)))]) rfl rfl hl.1 rfl (lv_room (Nat.le_of_ble_eq_true rfl)) d_L_law_784 ⟨Nat.le_of_ble_eq_true rfl, Nat.le_of_ble_eq_true rfl⟩) hS (fun q _ h => hge1 q h) (fun q h => hge1 q h) (fun H1 locs hQ hz1 hk9 hS => ?_)
  obtain ⟨n77, n78, n79, n80, hn77, hn78, hn79, hn80, hQ⟩ := hQ
  have hM' := zkeep (zDM hj2 cI N j0 j1 j2 j3) hM hdis hk9
  clear hP hM
  have hP := hQ
  have hM := hM'
  clear hQ hM' hk9 hz1
  generalize H1 = H at hP hM hS ⊢
  refine lv_aload_n hx hb d_L_law_787 rfl (lv_at hl 2 rfl) ?_
  refine lv_aload_n hx hb d_L_law_788 rfl (lv_at hl 0 rfl) ?_
  refine lv_iload_n hx hb d_L_law_789 rfl (lv_at hl 3 rfl) ?_
  refine lv_iconst (v := zi 1) hx hb d_L_law_790 rfl ?_
  refine zr_iadd hx hb d_L_law_791 ?_
  refine zr_sld hx hb hX hbl hbA hS (i := i + 1) (by omega) (by omega) (by omega) d_L_law_792 ?_
  refine zc_w (va_runV (As := [.int (zi (zX xs (i + 1)))]) (rest := [.int (zi (f_S_count S (zX xs (i + 1))))]) ⟨hx, hb, hml, hown, hts⟩ (k_M_count l dC dI ae cI N j0 j1 j2 j3 hIN hj2 hj0 hj1' hj2' hj3 (zX xs (i + 1)) (zB.w (zX_b xs (i + 1)) (by decide) (by decide))) (zlV 1 hts m_371 m_3 m_368 m_369 m_370 rfl rfl q_M_count ⟨Nat.le_of_ble_eq_true rfl, Nat.le_of_ble_eq_true rfl⟩) (zpM0 hM hK [.int (zi (zX xs (i + 1)))]) rfl rfl hl.1 rfl (lv_room (Nat.le_of_ble_eq_true rfl)) d_L_law_793 ⟨Nat.le_of_ble_eq_true rfl, Nat.le_of_ble_eq_true rfl⟩) hS (fun q _ h => hge2 q h) (fun q h => hge2 q h) (fun H1 locs hQ hz1 hk9 hS => ?_)
  obtain ⟨n81, n82, n83, n84, hn81, hn82, hn83, hn84, hQ⟩ := hQ
  have hP' := zkeep (zDS hj1 cI S n77 n78 n79 n80) hP hdis2 hk9
  clear hP hM
  have hM := hQ
  have hP := hP'
  clear hQ hP' hk9 hz1
  generalize H1 = H at hP hM hS ⊢
  have hRR := hR
  refine lv_icmp_eq (tgt := 801) hx hb d_L_law_796 (by decide) (fun _ => ?_) (fun c9 => absurd (by rw [(E_count hR (zX xs (i + 1)) (zB.w (zX_b xs (i + 1)) (by decide) (by decide)))]) c9)
  exact nx _ _ ls ⟨S, N, n77, n78, n79, n80, n81, n82, n83, n84, hRR, hn77, hn78, hn79, hn80, hn81, hn82, hn83, hn84, hP, hM⟩ hS hl
