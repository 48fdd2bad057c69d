def zs (S : Nat → Int → Int) (k : Nat) (f : Int → Int) : Nat → Int → Int := fun j => if j = k then f else S j
theorem zs_s (S : Nat → Int → Int) (k : Nat) (f : Int → Int) : zs S k f k = f := if_pos rfl
theorem zs_n {S : Nat → Int → Int} {k j : Nat} {f : Int → Int} (h : j ≠ k) : zs S k f j = S j := if_neg h
theorem zu_b {lo hi : Int} {g : Int → Int} {i v : Int} (h : ∀ j, zB lo hi (g j)) (hv : zB lo hi v) : ∀ j, zB lo hi (zu g i v j) := by
  intro j
  unfold zu
  split
  · exact hv
  · exact h j
def wS (ad : Nat → Nat) (cI : ClassId) (S : Nat → Int → Int) (k0 k1 k2 k3 : Int) : va_W := [(ad 0, .inr (1, [.ref (ad 1), .ref (ad 2), .ref (ad 3), .ref (ad 4), .ref (ad 5), .ref (ad 6), .ref (ad 7), .int (zi (S 11 0)), .int (zi (S 11 1)), .int (zi (S 11 2)), .int (zi (S 11 3)), .int (zi (S 11 4)), .int (zi (S 11 5))])), (ad 1, .inl (cI, 60, .inl (zA (S 0)))), (ad 2, .inl (cI, 60, .inl (zA (S 1)))), (ad 3, .inl (cI, 60, .inl (zA (S 2)))), (ad 4, .inl (cI, 60, .inl (zA (S 3)))), (ad 5, .inl (cI, 60, .inl (zA (S 4)))), (ad 6, .inl (cI, 120, .inl (zA (S 5)))), (ad 7, .inr (0, [.ref (ad 8), .ref (ad 9), .ref (ad 10), .ref (ad 11), .ref (ad 12), .int (zi (S 11 6)), .long (zl k0), .long (zl k1), .long (zl k2), .long (zl k3)])), (ad 8, .inl (cI, 8, .inl (zA (S 6)))), (ad 9, .inl (cI, 8, .inl (zA (S 7)))), (ad 10, .inl (cI, 8, .inl (zA (S 8)))), (ad 11, .inl (cI, 8, .inl (zA (S 9)))), (ad 12, .inl (cI, 8, .inl (zA (S 10))))]
def wM (ad : Nat → Nat) (cI : ClassId) (N : Nat → Int → Int) (k0 k1 k2 k3 : Int) : va_W := [(ad 0, .inr (2, [.int (zi (N 7 0)), .ref (ad 1), .ref (ad 2), .ref (ad 3), .ref (ad 4), .ref (ad 5), .ref (ad 6), .int (zi (N 7 1)), .ref (ad 7), .int (zi (N 7 2)), .int (zi (N 7 3)), .int (zi (N 7 4)), .int (zi (N 7 5)), .long (zl k0), .long (zl k1), .long (zl k2), .long (zl k3)])), (ad 1, .inl (cI, 60, .inl (zA (N 0)))), (ad 2, .inl (cI, 60, .inl (zA (N 1)))), (ad 3, .inl (cI, 60, .inl (zA (N 2)))), (ad 4, .inl (cI, 60, .inl (zA (N 3)))), (ad 5, .inl (cI, 60, .inl (zA (N 4)))), (ad 6, .inl (cI, 120, .inl (zA (N 5)))), (ad 7, .inl (cI, 40, .inl (zA (N 6))))]
def iS (S : Nat → Int → Int) : Prop := (∀ i : Int, zB (-15000) 15000 (S 0 i)) ∧ (∀ i : Int, zB (-15000) 15000 (S 1 i)) ∧ (∀ i : Int, zB (-100000) 100000 (S 2 i)) ∧ (∀ i : Int, zB (0) 2545620 (S 3 i)) ∧ (∀ i : Int, zB (0) 200 (S 4 i)) ∧ (∀ i : Int, zB (-1) 1000 (S 5 i)) ∧ (∀ i : Int, zB (-15000) 15000 (S 6 i)) ∧ (∀ i : Int, zB (-15000) 15000 (S 7 i)) ∧ (∀ i : Int, zB (-15000) 15000 (S 8 i)) ∧ (∀ i : Int, zB (-15000) 15000 (S 9 i)) ∧ (∀ i : Int, zB (-100000) 100000 (S 10 i)) ∧ zB 0 60 (S 11 0) ∧ zB 0 1000 (S 11 2) ∧ zB 0 1000 (S 11 3) ∧ zB 0 100 (S 11 4) ∧ zB 50 1000 (S 11 5) ∧ zB 0 8 (S 11 6)
theorem iS_a0 {S : Nat → Int → Int} (h : iS S) (i : Int) : zB (-15000) 15000 (S 0 i) := h.1 i
theorem iS_a1 {S : Nat → Int → Int} (h : iS S) (i : Int) : zB (-15000) 15000 (S 1 i) := h.2.1 i
theorem iS_a2 {S : Nat → Int → Int} (h : iS S) (i : Int) : zB (-100000) 100000 (S 2 i) := h.2.2.1 i
theorem iS_a3 {S : Nat → Int → Int} (h : iS S) (i : Int) : zB (0) 2545620 (S 3 i) := h.2.2.2.1 i
theorem iS_a4 {S : Nat → Int → Int} (h : iS S) (i : Int) : zB (0) 200 (S 4 i) := h.2.2.2.2.1 i
theorem iS_a5 {S : Nat → Int → Int} (h : iS S) (i : Int) : zB (-1) 1000 (S 5 i) := h.2.2.2.2.2.1 i
theorem iS_a6 {S : Nat → Int → Int} (h : iS S) (i : Int) : zB (-15000) 15000 (S 6 i) := h.2.2.2.2.2.2.1 i
theorem iS_a7 {S : Nat → Int → Int} (h : iS S) (i : Int) : zB (-15000) 15000 (S 7 i) := h.2.2.2.2.2.2.2.1 i
theorem iS_a8 {S : Nat → Int → Int} (h : iS S) (i : Int) : zB (-15000) 15000 (S 8 i) := h.2.2.2.2.2.2.2.2.1 i
theorem iS_a9 {S : Nat → Int → Int} (h : iS S) (i : Int) : zB (-15000) 15000 (S 9 i) := h.2.2.2.2.2.2.2.2.2.1 i
theorem iS_a10 {S : Nat → Int → Int} (h : iS S) (i : Int) : zB (-100000) 100000 (S 10 i) := h.2.2.2.2.2.2.2.2.2.2.1 i
theorem iS_s0 {S : Nat → Int → Int} (h : iS S) : zB 0 60 (S 11 0) := h.2.2.2.2.2.2.2.2.2.2.2.1
theorem iS_s2 {S : Nat → Int → Int} (h : iS S) : zB 0 1000 (S 11 2) := h.2.2.2.2.2.2.2.2.2.2.2.2.1
theorem iS_s3 {S : Nat → Int → Int} (h : iS S) : zB 0 1000 (S 11 3) := h.2.2.2.2.2.2.2.2.2.2.2.2.2.1
theorem iS_s4 {S : Nat → Int → Int} (h : iS S) : zB 0 100 (S 11 4) := h.2.2.2.2.2.2.2.2.2.2.2.2.2.2.1
theorem iS_s5 {S : Nat → Int → Int} (h : iS S) : zB 50 1000 (S 11 5) := h.2.2.2.2.2.2.2.2.2.2.2.2.2.2.2.1
theorem iS_s6 {S : Nat → Int → Int} (h : iS S) : zB 0 8 (S 11 6) := h.2.2.2.2.2.2.2.2.2.2.2.2.2.2.2.2
def iN (N : Nat → Int → Int) : Prop := (∀ i : Int, zB (-15000) 15000 (N 0 i)) ∧ (∀ i : Int, zB (-15000) 15000 (N 1 i)) ∧ (∀ i : Int, zB (-100000) 100000 (N 2 i)) ∧ (∀ i : Int, zB (0) 2545620 (N 3 i)) ∧ (∀ i : Int, zB (0) 200 (N 4 i)) ∧ (∀ i : Int, zB (-1) 1000 (N 5 i)) ∧ (∀ i : Int, zB (-100000) 100000 (N 6 i)) ∧ zB 0 60 (N 7 0) ∧ zB 0 8 (N 7 1) ∧ zB 0 1000 (N 7 2) ∧ zB 0 1000 (N 7 3) ∧ zB 0 100 (N 7 4) ∧ zB 50 1000 (N 7 5)
theorem iN_a0 {N : Nat → Int → Int} (h : iN N) (i : Int) : zB (-15000) 15000 (N 0 i) := h.1 i
theorem iN_a1 {N : Nat → Int → Int} (h : iN N) (i : Int) : zB (-15000) 15000 (N 1 i) := h.2.1 i
theorem iN_a2 {N : Nat → Int → Int} (h : iN N) (i : Int) : zB (-100000) 100000 (N 2 i) := h.2.2.1 i
theorem iN_a3 {N : Nat → Int → Int} (h : iN N) (i : Int) : zB (0) 2545620 (N 3 i) := h.2.2.2.1 i
theorem iN_a4 {N : Nat → Int → Int} (h : iN N) (i : Int) : zB (0) 200 (N 4 i) := h.2.2.2.2.1 i
theorem iN_a5 {N : Nat → Int → Int} (h : iN N) (i : Int) : zB (-1) 1000 (N 5 i) := h.2.2.2.2.2.1 i
theorem iN_a6 {N : Nat → Int → Int} (h : iN N) (i : Int) : zB (-100000) 100000 (N 6 i) := h.2.2.2.2.2.2.1 i
theorem iN_s0 {N : Nat → Int → Int} (h : iN N) : zB 0 60 (N 7 0) := h.2.2.2.2.2.2.2.1
theorem iN_s1 {N : Nat → Int → Int} (h : iN N) : zB 0 8 (N 7 1) := h.2.2.2.2.2.2.2.2.1
theorem iN_s2 {N : Nat → Int → Int} (h : iN N) : zB 0 1000 (N 7 2) := h.2.2.2.2.2.2.2.2.2.1
theorem iN_s3 {N : Nat → Int → Int} (h : iN N) : zB 0 1000 (N 7 3) := h.2.2.2.2.2.2.2.2.2.2.1
theorem iN_s4 {N : Nat → Int → Int} (h : iN N) : zB 0 100 (N 7 4) := h.2.2.2.2.2.2.2.2.2.2.2.1
theorem iN_s5 {N : Nat → Int → Int} (h : iN N) : zB 50 1000 (N 7 5) := h.2.2.2.2.2.2.2.2.2.2.2.2
def zAd (n : Nat) (ad : Nat → Nat) : Nat → Prop := fun q => ∃ i, i < n ∧ q = ad i
def zJ (n : Nat) (ad : Nat → Nat) : Prop := ∀ i j, i < n → j < n → ad i = ad j → i = j
theorem zD_of {n : Nat} {ad : Nat → Nat} {ws : va_W} (hj : zJ n ad) (h : ws.map (fun q => q.1) = (List.range n).map ad) : va_D (zAd n ad) ws := by
  have key : ∀ (k : Nat) (q : Nat × va_E), ws[k]? = some q → k < n ∧ q.1 = ad k := by
    intro k q hk
    have h1 : (ws.map (fun q => q.1))[k]? = some q.1 := by rw [List.getElem?_map, hk]; rfl
    rw [h, List.getElem?_map] at h1
    by_cases hn : k < n
    · rw [List.getElem?_range hn] at h1
      exact ⟨hn, (Option.some.inj h1).symm⟩
    · rw [List.getElem?_eq_none (by rw [List.length_range]; omega)] at h1
      cases h1
  refine ⟨fun i j p q hi hk hpq => ?_, fun k q hk => ?_⟩
  · obtain ⟨a1, a2⟩ := key i p hi
    obtain ⟨b1, b2⟩ := key j q hk
    exact hj i j a1 b1 (by rw [← a2, ← b2, hpq])
  · obtain ⟨a1, a2⟩ := key k q hk
    exact ⟨k, a1, a2⟩
abbrev zAS (ad : Nat → Nat) : Nat → Prop := zAd 13 ad
abbrev zAM (ad : Nat → Nat) : Nat → Prop := zAd 8 ad
theorem zDS {ad : Nat → Nat} (hj : zJ 13 ad) (cI : ClassId) (S : Nat → Int → Int) (k0 k1 k2 k3 : Int) : va_D (zAS ad) (wS ad cI S k0 k1 k2 k3) := zD_of hj rfl
theorem zDM {ad : Nat → Nat} (hj : zJ 8 ad) (cI : ClassId) (N : Nat → Int → Int) (k0 k1 k2 k3 : Int) : va_D (zAM ad) (wM ad cI N k0 k1 k2 k3) := zD_of hj rfl
/-- the words of the nest -/
def zN (U : State) : Prop := va_Nw (.methodLinkNest R_S 113 y_B_firstAcross R_S) U ∧ va_Nw (.fieldLinkNest R_S 119 R_B "size" "I" R_S) U ∧ va_Nw (.methodLinkNest R_S 76 y_B_add R_S) U ∧ va_Nw (.methodLinkNest R_S 30 y_B_init R_S) U
theorem zN.same {u U : State} (h : u.vm = U.vm) (q : zN u) : zN U := ⟨va_Nw.same rfl h q.1, va_Nw.same rfl h q.2.1, va_Nw.same rfl h q.2.2.1, va_Nw.same rfl h q.2.2.2⟩
theorem zN.warm {s U : State} (h : s.WarmedH U.vm) (q : zN s) : zN U := ⟨va_Nw.warmM h q.1, va_Nw.warmF h q.2.1, va_Nw.warmM h q.2.2.1, va_Nw.warmM h q.2.2.2⟩
def zWS (dC : Nat → ClassId) (dI : Nat → Nat → Nat) (ad : Nat → Nat) (cI : ClassId) (S : Nat → Int → Int) (k0 k1 k2 k3 : Int) : State → Prop := fun U => va_P (dC, dI) classes (wS ad cI S k0 k1 k2 k3) U.heap ∧ va_K (dC, dI) classes [(cI, .int)] U ∧ zN U
def zWM (dC : Nat → ClassId) (dI : Nat → Nat → Nat) (ad : Nat → Nat) (cI : ClassId) (N : Nat → Int → Int) (k0 k1 k2 k3 : Int) : State → Prop := fun U => va_P (dC, dI) classes (wM ad cI N k0 k1 k2 k3) U.heap ∧ va_K (dC, dI) classes [(cI, .int)] U
section ZP
variable {s : State} {H : Heap} {dC : Nat → ClassId} {dI : Nat → Nat → Nat} {ad : Nat → Nat} {cI : ClassId} {S : Nat → Int → Int} {k0 k1 k2 k3 : Int}
theorem zWS_blind (av : List Value) : FrameBlind (va_Pc av (zWS dC dI ad cI S k0 k1 k2 k3)) := fun a U g mk q => by
  obtain ⟨q0, qP, qK, qN⟩ := q
  exact ⟨q0, qP, va_K.moved (u := U) (U := U.calling g mk a) (Vm.Alike.refl U.vm) qK, zN.same (u := U) rfl qN⟩
theorem zWM_blind (av : List Value) : FrameBlind (va_Pc av (zWM dC dI ad cI S k0 k1 k2 k3)) := fun a U g mk q => by
  obtain ⟨q0, qP, qK⟩ := q
  exact ⟨q0, qP, va_K.moved (u := U) (U := U.calling g mk a) (Vm.Alike.refl U.vm) qK⟩
theorem zpS0 (hP : va_P (dC, dI) classes (wS ad cI S k0 k1 k2 k3) H) (hK : va_K (dC, dI) classes [(cI, .int)] s) (hN : zN s) (As : List Value) : PreV s H R_S (ad 0) (va_Pc (.ref (ad 0) :: As) (zWS dC dI ad cI S k0 k1 k2 k3)) As :=
  ⟨zWS_blind _, va_recv hK hP (ci := 1) (q0 := 0) rfl rfl, fun U hU hW => ⟨rfl, by rw [hU]; exact hP, va_K.moved hW.alike hK, hN.warm hW⟩⟩
theorem zpS7 (hP : va_P (dC, dI) classes (wS ad cI S k0 k1 k2 k3) H) (hK : va_K (dC, dI) classes [(cI, .int)] s) (hN : zN s) (As : List Value) : PreV s H R_B (ad 7) (va_Pc (.ref (ad 7) :: As) (zWS dC dI ad cI S k0 k1 k2 k3)) As :=
  ⟨zWS_blind _, va_recv hK hP (ci := 0) (q0 := 7) rfl rfl, fun U hU hW => ⟨rfl, by rw [hU]; exact hP, va_K.moved hW.alike hK, hN.warm hW⟩⟩
theorem zpM0 (hP : va_P (dC, dI) classes (wM ad cI S k0 k1 k2 k3) H) (hK : va_K (dC, dI) classes [(cI, .int)] s) (As : List Value) : PreV s H R_M (ad 0) (va_Pc (.ref (ad 0) :: As) (zWM dC dI ad cI S k0 k1 k2 k3)) As :=
  ⟨zWM_blind _, va_recv hK hP (ci := 2) (q0 := 0) rfl rfl, fun U hU hW => ⟨rfl, by rw [hU]; exact hP, va_K.moved hW.alike hK⟩⟩
theorem zp0 (As : List Value) : PreS s H (va_Pc As (fun _ => True)) As := ⟨fun a U g mk q => ⟨q.1, trivial⟩, fun U hU hW => ⟨rfl, trivial⟩⟩
end ZP
section ZC
variable {R rm : Room} {s : State} {args : Array Value} {own C host : String} {index maxL mc ms : Nat} {y : MethodName} {bytes : ByteArray} {ret : Option FieldType} {c0 : Cond}
def zq (y : MethodName) (n : Nat) : Prop := y.cls ≠ "java/lang/invoke/MethodHandle" ∧ y.cls ≠ "java/lang/invoke/VarHandle" ∧ (parseMethodDescriptor y.desc).map (fun d => d.parameters.length) = some n
theorem zcB (n : Nat) (ht : ∀ w ∈ c0 :: zT, w.before args s = true) (hc : Cond.code y bytes maxL ret ∈ zT) (hini : Cond.initialized y.cls ∈ zT) (hl : Cond.methodLink own index y ∈ zT) (hrc : rm.cells = mc) (hrs : rm.slots = ms) (hd : zq y n) (hR : rm.frames + 1 ≤ R.frames ∧ 8 + (maxL + 11) + rm.locals ≤ R.locals) :
    CallB R s args own index y bytes maxL ret (Cond.code y bytes maxL ret :: zT) rm mc ms n :=
  callB_of n ht (zG hc) rfl hrc hrs (ht _ (List.mem_cons_of_mem _ hini)) (ht _ (List.mem_cons_of_mem _ hl)) hd hR
theorem zcV (n : Nat) (ht : ∀ w ∈ c0 :: zT, w.before args s = true) (hc : Cond.code y bytes maxL ret ∈ zT) (hini : Cond.initialized y.cls ∈ zT) (hl : Cond.methodLink own index y ∈ zT) (hi : Cond.instanceMethod y ∈ zT) (hse : Cond.selects C y y ∈ zT) (hrc : rm.cells = mc) (hrs : rm.slots = ms) (hd : zq y n) (hR : rm.frames + 1 ≤ R.frames ∧ 8 + (maxL + 11) + rm.locals ≤ R.locals) :
    CallW R s args own C index y bytes maxL ret (Cond.code y bytes maxL ret :: zT) rm mc ms n :=
  ⟨zcB n ht hc hini hl hrc hrs hd hR, ht _ (List.mem_cons_of_mem _ hi), ht _ (List.mem_cons_of_mem _ hse)⟩
theorem zcS (n : Nat) (ht : ∀ w ∈ c0 :: zT, w.before args s = true) (hc : Cond.code y bytes maxL ret ∈ zT) (hini : Cond.initialized y.cls ∈ zT) (hl : Cond.methodLink own index y ∈ zT) (hst : Cond.static y ∈ zT) (hrc : rm.cells = mc) (hrs : rm.slots = ms) (hd : zq y n) (hR : rm.frames + 1 ≤ R.frames ∧ 8 + (maxL + 11) + rm.locals ≤ R.locals) :
    CallB R s args own index y bytes maxL ret (Cond.code y bytes maxL ret :: zT) rm mc ms n ∧ (Cond.static y).before args s = true :=
  ⟨zcB n ht hc hini hl hrc hrs hd hR, ht _ (List.mem_cons_of_mem _ hst)⟩
theorem zcN (n : Nat) (ht : ∀ w ∈ c0 :: zT, w.before args s = true) (hc : Cond.code y bytes maxL ret ∈ zT) (hini : Cond.initialized y.cls ∈ zT) (hl : va_Nw (.methodLinkNest own index y host) s) (hi : Cond.instanceMethod y ∈ zT) (hse : Cond.selects C y y ∈ zT) (hrc : rm.cells = mc) (hrs : rm.slots = ms) (hd : zq y n) (hR : rm.frames + 1 ≤ R.frames ∧ 8 + (maxL + 11) + rm.locals ≤ R.locals) :
    va_CN R s args own index y host bytes maxL ret (Cond.code y bytes maxL ret :: zT) rm mc ms n ∧ (Cond.instanceMethod y).before args s = true ∧ (Cond.selects C y y).before args s = true :=
  ⟨va_cnB n ht (zG hc) rfl hrc hrs hl (ht _ (List.mem_cons_of_mem _ hini)) hd hR, ht _ (List.mem_cons_of_mem _ hi), ht _ (List.mem_cons_of_mem _ hse)⟩
end ZC
theorem zl_max {a b : Int} (ha : zL a) (hb : zL b) : (if zl b < zl a then zl a else zl b) = zl (zmax a b) := by
  rw [zl_if]
  congr 1
  have h := zl_lt hb ha
  unfold zmax
  by_cases q : b < a
  · rw [if_pos (h.mpr q)]
    split <;> omega
  · rw [if_neg (fun z => q (h.mp z))]
    split <;> omega
section ZRL
variable {p : Program} {l : Launch} {e : Env} {R : Room} {s : State} {m : MethodId} {args : Array Value} {below : List Frame} {meth : Method} {c : Code} {H : Heap} {locs : List Loc} {cells slots : Nat} {Q : State → Prop}
variable {cc : ByteArray} {pc : Nat} {ls : Array Slot} {rest : List Value}
theorem zr_maxl (hx : p.tables.exec = Jvm.exec) (hb : c.code = cc) (hml : c.maxLocals = ls.size) {own : String} {index : Nat} (hown : s.vm.findClass own = some m.cls) (hlink : (Cond.methodLink own index Lib.MathLoose.max_long.x).before args s = true) (hstat : (Cond.static Lib.MathLoose.max_long.x).before args s = true) (hini : (Cond.initialized "java/lang/Math").before args s = true) (hcode : (Cond.code Lib.MathLoose.max_long.x Lib.MathLoose.max_long.code 4 (some .long)).before args s = true) (hframes : 1 ≤ R.frames) (hlocals : (rest.map fun v => v.category).sum + 15 ≤ R.locals) (hc : cells ≤ R.cells) (hs : slots ≤ R.slots) {a b : Int} (ha : zL a) (hb' : zL b) (hd : decode cc pc = .ok (.invokestatic index, 3)) (k : W p l e R s m args below meth c H locs cells slots Q (F0 m (pc + 3) ls (.long (zl (zmax a b)) :: rest))) : W p l e R s m args below meth c H locs cells slots Q (F0 m pc ls (.long (zl b) :: .long (zl a) :: rest)) :=
  va_mmax_long hx hb hml hown hlink hstat hini hcode hframes hlocals hc hs hd (by rw [zl_max ha hb']; exact k)
end ZRL
theorem zb_maxl {lo hi a1 a2 b1 b2 a b : Int} (ha : zB a1 a2 a) (hb : zB b1 b2 b) (h1 : lo ≤ a1 ∨ lo ≤ b1) (h2 : a2 ≤ hi) (h3 : b2 ≤ hi) : zB lo hi (zmax a b) := by
  obtain ⟨p1, p2⟩ := ha
  obtain ⟨q1, q2⟩ := hb
  unfold zmax
  split <;> constructor <;> omega
theorem q_S_init : zq y_S_init 0 := ⟨by decide +kernel, by decide +kernel, by decide +kernel⟩
theorem q_S_station : zq y_S_station 3 := ⟨by decide +kernel, by decide +kernel, by decide +kernel⟩
theorem q_S_heights : zq y_S_heights 2 := ⟨by decide +kernel, by decide +kernel, by decide +kernel⟩
theorem q_S_clear : zq y_S_clear 3 := ⟨by decide +kernel, by decide +kernel, by decide +kernel⟩
theorem q_S_box : zq y_S_box 5 := ⟨by decide +kernel, by decide +kernel, by decide +kernel⟩
theorem q_S_speed : zq y_S_speed 2 := ⟨by decide +kernel, by decide +kernel, by decide +kernel⟩
theorem q_S_brake : zq y_S_brake 2 := ⟨by decide +kernel, by decide +kernel, by decide +kernel⟩
theorem q_S_way : zq y_S_way 1 := ⟨by decide +kernel, by decide +kernel, by decide +kernel⟩
theorem q_S_view : zq y_S_view 3 := ⟨by decide +kernel, by decide +kernel, by decide +kernel⟩
theorem q_S_sight : zq y_S_sight 2 := ⟨by decide +kernel, by decide +kernel, by decide +kernel⟩
theorem q_S_need : zq y_S_need 2 := ⟨by decide +kernel, by decide +kernel, by decide +kernel⟩
theorem q_S_blind : zq y_S_blind 3 := ⟨by decide +kernel, by decide +kernel, by decide +kernel⟩
theorem q_S_setBack : zq y_S_setBack 2 := ⟨by decide +kernel, by decide +kernel, by decide +kernel⟩
theorem q_S_allowed : zq y_S_allowed 2 := ⟨by decide +kernel, by decide +kernel, by decide +kernel⟩
theorem q_S_overtake : zq y_S_overtake 1 := ⟨by decide +kernel, by decide +kernel, by decide +kernel⟩
theorem q_S_seen : zq y_S_seen 3 := ⟨by decide +kernel, by decide +kernel, by decide +kernel⟩
theorem q_S_light : zq y_S_light 3 := ⟨by decide +kernel, by decide +kernel, by decide +kernel⟩
theorem q_S_count : zq y_S_count 1 := ⟨by decide +kernel, by decide +kernel, by decide +kernel⟩
theorem q_S_isWithin : zq y_S_isWithin 3 := ⟨by decide +kernel, by decide +kernel, by decide +kernel⟩
theorem q_S_isInPlane : zq y_S_isInPlane 2 := ⟨by decide +kernel, by decide +kernel, by decide +kernel⟩
theorem q_S_isLevel : zq y_S_isLevel 1 := ⟨by decide +kernel, by decide +kernel, by decide +kernel⟩
theorem q_S_isSide : zq y_S_isSide 1 := ⟨by decide +kernel, by decide +kernel, by decide +kernel⟩
theorem q_S_isStation : zq y_S_isStation 1 := ⟨by decide +kernel, by decide +kernel, by decide +kernel⟩
theorem q_S_squareOf : zq y_S_squareOf 2 := ⟨by decide +kernel, by decide +kernel, by decide +kernel⟩
theorem q_S_squareBetween : zq y_S_squareBetween 2 := ⟨by decide +kernel, by decide +kernel, by decide +kernel⟩
theorem q_S_stepBetween : zq y_S_stepBetween 2 := ⟨by decide +kernel, by decide +kernel, by decide +kernel⟩
theorem q_S_rootOf : zq y_S_rootOf 1 := ⟨by decide +kernel, by decide +kernel, by decide +kernel⟩
theorem q_S_interruption : zq y_S_interruption 2 := ⟨by decide +kernel, by decide +kernel, by decide +kernel⟩
theorem q_S_isGroundAbove : zq y_S_isGroundAbove 3 := ⟨by decide +kernel, by decide +kernel, by decide +kernel⟩
theorem q_S_isBankInWay : zq y_S_isBankInWay 3 := ⟨by decide +kernel, by decide +kernel, by decide +kernel⟩
theorem q_S_crossAt : zq y_S_crossAt 3 := ⟨by decide +kernel, by decide +kernel, by decide +kernel⟩
theorem q_S_sideOf : zq y_S_sideOf 1 := ⟨by decide +kernel, by decide +kernel, by decide +kernel⟩
theorem q_S_isFarther : zq y_S_isFarther 3 := ⟨by decide +kernel, by decide +kernel, by decide +kernel⟩
theorem q_S_widened : zq y_S_widened 5 := ⟨by decide +kernel, by decide +kernel, by decide +kernel⟩
theorem q_S_sightFrom : zq y_S_sightFrom 2 := ⟨by decide +kernel, by decide +kernel, by decide +kernel⟩
theorem q_S_needWith : zq y_S_needWith 3 := ⟨by decide +kernel, by decide +kernel, by decide +kernel⟩
theorem q_S_slopeBeyond : zq y_S_slopeBeyond 2 := ⟨by decide +kernel, by decide +kernel, by decide +kernel⟩
theorem q_S_roadBeyond : zq y_S_roadBeyond 2 := ⟨by decide +kernel, by decide +kernel, by decide +kernel⟩
theorem q_S_isBlind : zq y_S_isBlind 2 := ⟨by decide +kernel, by decide +kernel, by decide +kernel⟩
theorem q_S_blindStations : zq y_S_blindStations 1 := ⟨by decide +kernel, by decide +kernel, by decide +kernel⟩
theorem q_S_freeViews : zq y_S_freeViews 0 := ⟨by decide +kernel, by decide +kernel, by decide +kernel⟩
theorem q_M_init : zq y_M_init 0 := ⟨by decide +kernel, by decide +kernel, by decide +kernel⟩
theorem q_M_within : zq y_M_within 3 := ⟨by decide +kernel, by decide +kernel, by decide +kernel⟩
theorem q_M_isStation : zq y_M_isStation 1 := ⟨by decide +kernel, by decide +kernel, by decide +kernel⟩
theorem q_M_root : zq y_M_root 1 := ⟨by decide +kernel, by decide +kernel, by decide +kernel⟩
theorem q_M_square : zq y_M_square 1 := ⟨by decide +kernel, by decide +kernel, by decide +kernel⟩
theorem q_M_isPoint : zq y_M_isPoint 2 := ⟨by decide +kernel, by decide +kernel, by decide +kernel⟩
theorem q_M_station : zq y_M_station 3 := ⟨by decide +kernel, by decide +kernel, by decide +kernel⟩
theorem q_M_heights : zq y_M_heights 2 := ⟨by decide +kernel, by decide +kernel, by decide +kernel⟩
theorem q_M_clear : zq y_M_clear 3 := ⟨by decide +kernel, by decide +kernel, by decide +kernel⟩
theorem q_M_box : zq y_M_box 5 := ⟨by decide +kernel, by decide +kernel, by decide +kernel⟩
theorem q_M_speed : zq y_M_speed 2 := ⟨by decide +kernel, by decide +kernel, by decide +kernel⟩
theorem q_M_brake : zq y_M_brake 2 := ⟨by decide +kernel, by decide +kernel, by decide +kernel⟩
theorem q_M_way : zq y_M_way 1 := ⟨by decide +kernel, by decide +kernel, by decide +kernel⟩
theorem q_M_isAbove : zq y_M_isAbove 3 := ⟨by decide +kernel, by decide +kernel, by decide +kernel⟩
theorem q_M_beside : zq y_M_beside 3 := ⟨by decide +kernel, by decide +kernel, by decide +kernel⟩
theorem q_M_lengthSquare : zq y_M_lengthSquare 2 := ⟨by decide +kernel, by decide +kernel, by decide +kernel⟩
theorem q_M_isBanked : zq y_M_isBanked 3 := ⟨by decide +kernel, by decide +kernel, by decide +kernel⟩
theorem q_M_cut : zq y_M_cut 4 := ⟨by decide +kernel, by decide +kernel, by decide +kernel⟩
theorem q_M_isBelow : zq y_M_isBelow 5 := ⟨by decide +kernel, by decide +kernel, by decide +kernel⟩
theorem q_M_isBoxed : zq y_M_isBoxed 7 := ⟨by decide +kernel, by decide +kernel, by decide +kernel⟩
theorem q_M_interrupter : zq y_M_interrupter 2 := ⟨by decide +kernel, by decide +kernel, by decide +kernel⟩
theorem q_M_view : zq y_M_view 3 := ⟨by decide +kernel, by decide +kernel, by decide +kernel⟩
theorem q_M_sightOf : zq y_M_sightOf 2 := ⟨by decide +kernel, by decide +kernel, by decide +kernel⟩
theorem q_M_needOf : zq y_M_needOf 3 := ⟨by decide +kernel, by decide +kernel, by decide +kernel⟩
theorem q_M_remaining : zq y_M_remaining 2 := ⟨by decide +kernel, by decide +kernel, by decide +kernel⟩
theorem q_M_isBlind : zq y_M_isBlind 2 := ⟨by decide +kernel, by decide +kernel, by decide +kernel⟩
theorem q_M_sight : zq y_M_sight 2 := ⟨by decide +kernel, by decide +kernel, by decide +kernel⟩
theorem q_M_need : zq y_M_need 2 := ⟨by decide +kernel, by decide +kernel, by decide +kernel⟩
theorem q_M_blind : zq y_M_blind 3 := ⟨by decide +kernel, by decide +kernel, by decide +kernel⟩
theorem q_M_setBack : zq y_M_setBack 2 := ⟨by decide +kernel, by decide +kernel, by decide +kernel⟩
theorem q_M_allowed : zq y_M_allowed 2 := ⟨by decide +kernel, by decide +kernel, by decide +kernel⟩
theorem q_M_overtake : zq y_M_overtake 1 := ⟨by decide +kernel, by decide +kernel, by decide +kernel⟩
theorem q_M_seen : zq y_M_seen 3 := ⟨by decide +kernel, by decide +kernel, by decide +kernel⟩
theorem q_M_light : zq y_M_light 3 := ⟨by decide +kernel, by decide +kernel, by decide +kernel⟩
theorem q_M_count : zq y_M_count 1 := ⟨by decide +kernel, by decide +kernel, by decide +kernel⟩
theorem q_B_init : zq y_B_init 0 := ⟨by decide +kernel, by decide +kernel, by decide +kernel⟩
theorem q_B_add : zq y_B_add 5 := ⟨by decide +kernel, by decide +kernel, by decide +kernel⟩
theorem q_B_firstAcross : zq y_B_firstAcross 6 := ⟨by decide +kernel, by decide +kernel, by decide +kernel⟩
theorem q_B_takeWhole : zq y_B_takeWhole 0 := ⟨by decide +kernel, by decide +kernel, by decide +kernel⟩
theorem q_B_narrow : zq y_B_narrow 4 := ⟨by decide +kernel, by decide +kernel, by decide +kernel⟩
theorem q_B_dipsBelow : zq y_B_dipsBelow 3 := ⟨by decide +kernel, by decide +kernel, by decide +kernel⟩
