/-! ints and longs by whole numbers: zi a, zl a; what a walk's rows say of them -/
def zi (a : Int) : Int32 := Int32.ofInt a
def zl (a : Int) : Int64 := Int64.ofInt a
def zI (a : Int) : Prop := -2147483648 ≤ a ∧ a < 2147483648
def zL (a : Int) : Prop := -9223372036854775808 ≤ a ∧ a < 9223372036854775808
def zB (lo hi a : Int) : Prop := lo ≤ a ∧ a ≤ hi
theorem zi_t {a : Int} (h : zI a) : (zi a).toInt = a := Int32.toInt_ofInt_of_le (by have := h.1; omega) (by have := h.2; omega)
theorem zl_t {a : Int} (h : zL a) : (zl a).toInt = a := Int64.toInt_ofInt_of_le (by have := h.1; omega) (by have := h.2; omega)
theorem zi_of (x : Int32) : zi x.toInt = x := Int32.ofInt_toInt x
theorem zl_of (x : Int64) : zl x.toInt = x := Int64.ofInt_toInt x
theorem zI_of (x : Int32) : zI x.toInt := ⟨by have := Int32.le_toInt x; omega, by have := Int32.toInt_lt x; omega⟩
theorem zi_add (a b : Int) : zi a + zi b = zi (a + b) := (Int32.ofInt_add a b).symm
theorem zi_sub (a b : Int) : zi a - zi b = zi (a - b) := (Int32.ofInt_sub a b).symm
theorem zi_mul (a b : Int) : zi a * zi b = zi (a * b) := (Int32.ofInt_mul a b).symm
theorem zi_neg (a : Int) : -zi a = zi (-a) := Int32.neg_ofInt
theorem zl_add (a b : Int) : zl a + zl b = zl (a + b) := (Int64.ofInt_add a b).symm
theorem zl_sub (a b : Int) : zl a - zl b = zl (a - b) := (Int64.ofInt_sub a b).symm
theorem zl_mul (a b : Int) : zl a * zl b = zl (a * b) := (Int64.ofInt_mul a b).symm
theorem zl_neg (a : Int) : -zl a = zl (-a) := Int64.neg_ofInt
theorem zi_lt {a b : Int} (ha : zI a) (hb : zI b) : zi a < zi b ↔ a < b := by rw [Int32.lt_iff_toInt_lt, zi_t ha, zi_t hb]
theorem zi_le {a b : Int} (ha : zI a) (hb : zI b) : zi a ≤ zi b ↔ a ≤ b := by rw [Int32.le_iff_toInt_le, zi_t ha, zi_t hb]
theorem zi_eq {a b : Int} (ha : zI a) (hb : zI b) : zi a = zi b ↔ a = b := ⟨fun h => by rw [← zi_t ha, ← zi_t hb, h], fun h => by rw [h]⟩
theorem zl_lt {a b : Int} (ha : zL a) (hb : zL b) : zl a < zl b ↔ a < b := by rw [Int64.lt_iff_toInt_lt, zl_t ha, zl_t hb]
theorem zl_le {a b : Int} (ha : zL a) (hb : zL b) : zl a ≤ zl b ↔ a ≤ b := by rw [Int64.le_iff_toInt_le, zl_t ha, zl_t hb]
theorem zl_eq {a b : Int} (ha : zL a) (hb : zL b) : zl a = zl b ↔ a = b := ⟨fun h => by rw [← zl_t ha, ← zl_t hb, h], fun h => by rw [h]⟩
theorem zi_0 : zi 0 = 0 := rfl
theorem zl_0 : zl 0 = 0 := rfl
theorem zI_0 : zI 0 := ⟨by decide, by decide⟩
theorem zi_l {a : Int} (h : zI a) : (zi a).toInt64 = zl a := Int64.toInt_inj.mp (by rw [Int32.toInt_toInt64, zi_t h, zl_t ⟨by have := h.1; omega, by have := h.2; omega⟩])
theorem zl_i (a : Int) : (zl a).toInt32 = zi a := Int64.toInt32_ofInt
-- intervals
theorem zB.I {lo hi a : Int} (h : zB lo hi a) (h1 : -2147483648 ≤ lo) (h2 : hi < 2147483648) : zI a := ⟨Int.le_trans h1 h.1, Int.lt_of_le_of_lt h.2 h2⟩
theorem zB.L {lo hi a : Int} (h : zB lo hi a) (h1 : -9223372036854775808 ≤ lo) (h2 : hi < 9223372036854775808) : zL a := ⟨Int.le_trans h1 h.1, Int.lt_of_le_of_lt h.2 h2⟩
theorem zB.w {lo hi lo' hi' a : Int} (h : zB lo hi a) (h1 : lo' ≤ lo) (h2 : hi ≤ hi') : zB lo' hi' a := ⟨Int.le_trans h1 h.1, Int.le_trans h.2 h2⟩
theorem zb_c (a : Int) : zB a a a := ⟨Int.le_refl a, Int.le_refl a⟩
theorem zb_add {a b c d x y : Int} (h : zB a b x) (g : zB c d y) : zB (a + c) (b + d) (x + y) := ⟨Int.add_le_add h.1 g.1, Int.add_le_add h.2 g.2⟩
theorem zb_sub {a b c d x y : Int} (h : zB a b x) (g : zB c d y) : zB (a - d) (b - c) (x - y) := ⟨Int.sub_le_sub h.1 g.2, Int.sub_le_sub h.2 g.1⟩
theorem zb_neg {a b x : Int} (h : zB a b x) : zB (-b) (-a) (-x) := ⟨Int.neg_le_neg h.2, Int.neg_le_neg h.1⟩
theorem zb_abs {A x : Int} (h : zB (-A) A x) : x.natAbs ≤ A.toNat := by
  obtain ⟨h1, h2⟩ := h
  omega
theorem zb_mul {A B x y : Int} (h : zB (-A) A x) (g : zB (-B) B y) : zB (-(A * B)) (A * B) (x * y) := by
  have hA : 0 ≤ A := by have := h.1; have := h.2; omega
  have hB : 0 ≤ B := by have := g.1; have := g.2; omega
  have h1 := zb_abs h
  have h2 := zb_abs g
  have h3 : (x * y).natAbs ≤ A.toNat * B.toNat := by rw [Int.natAbs_mul]; exact Nat.mul_le_mul h1 h2
  have h4 : ((A.toNat * B.toNat : Nat) : Int) = A * B := by rw [Int.natCast_mul, Int.toNat_of_nonneg hA, Int.toNat_of_nonneg hB]
  have h5 : ((x * y).natAbs : Int) ≤ A * B := by rw [← h4]; exact Int.ofNat_le.mpr h3
  constructor <;> omega
theorem zb_mulp {a b c d x y : Int} (h : zB a b x) (g : zB c d y) (ha : 0 ≤ a) (hc : 0 ≤ c) : zB 0 (b * d) (x * y) := by
  obtain ⟨h1, h2⟩ := h
  obtain ⟨g1, g2⟩ := g
  have hx : 0 ≤ x := Int.le_trans ha h1
  have hy : 0 ≤ y := Int.le_trans hc g1
  exact ⟨Int.mul_nonneg hx hy, Int.mul_le_mul h2 g2 hy (Int.le_trans hx h2)⟩
theorem zb_sq {A x : Int} (h : zB (-A) A x) : zB 0 (A * A) (x * x) := by
  refine ⟨?_, (zb_mul h h).2⟩
  rcases Int.le_total 0 x with q | q
  · exact Int.mul_nonneg q q
  · exact Int.mul_nonneg_of_nonpos_of_nonpos q q
-- arrays of ints
def zA (g : Int → Int) : Nat → Int32 := fun j => zi (g (j : Int))
def zu (g : Int → Int) (i v : Int) : Int → Int := fun j => if j = i then v else g j
theorem zu_s (g : Int → Int) (i v : Int) : zu g i v i = v := if_pos rfl
theorem zu_n {g : Int → Int} {i v j : Int} (h : ¬ j = i) : zu g i v j = g j := if_neg h
theorem zp_in {i : Int} {n : Nat} (h0 : 0 ≤ i) (h1 : i < (n : Int)) (hn : (n : Int) ≤ 2147483647) : vp_in (zi i) n := by
  rw [vp_in_iff, zi_t ⟨by omega, by omega⟩]
  exact ⟨h0, h1⟩
theorem zp_cl {i : Int} (h0 : 0 ≤ i) (h1 : i < 2147483648) : (zi i).toNatClampNeg = i.toNat := by
  rw [← Int32.toNat_toInt, zi_t ⟨by omega, h1⟩]
theorem zA_at (g : Int → Int) {i : Int} (h0 : 0 ≤ i) (h1 : i < 2147483648) : zA g (zi i).toNatClampNeg = zi (g i) := by
  rw [zp_cl h0 h1]
  show zi (g ((i.toNat : Nat) : Int)) = _
  rw [Int.toNat_of_nonneg h0]
theorem zA_up (g : Int → Int) {i v : Int} (h0 : 0 ≤ i) (h1 : i < 2147483648) : upd (zA g) (zi i).toNatClampNeg (zi v) = zA (zu g i v) := by
  rw [zp_cl h0 h1]
  funext j
  show (if j = i.toNat then zi v else zi (g (j : Int))) = zi (if (j : Int) = i then v else g (j : Int))
  by_cases h : j = i.toNat
  · have : (j : Int) = i := by omega
    rw [if_pos h, if_pos this]
  · have : ¬ (j : Int) = i := by omega
    rw [if_neg h, if_neg this]
theorem zA_0 : zA (fun _ => 0) = fun _ => 0 := rfl
section ZR
variable {p : Program} {l : Launch} {e : Env} {R : Room} {s : State} {m : MethodId} {args : Array Value} {below : List Frame} {meth : Method} {c : Code} {H : Heap} {locs : List Loc} {cells slots : Nat} {Q : State → Prop}
variable {cc : ByteArray} {pc : Nat} {ls : Array Slot} {rest : List Value}
theorem zr_iadd (hx : p.tables.exec = Jvm.exec) (hb : c.code = cc) {a b : Int} (hd : decode cc pc = .ok (.iadd, 1)) (k : W p l e R s m args below meth c H locs cells slots Q (F0 m (pc + 1) ls (.int (zi (a + b)) :: rest))) : W p l e R s m args below meth c H locs cells slots Q (F0 m pc ls (.int (zi b) :: .int (zi a) :: rest)) := lv_iadd hx hb hd (by rw [zi_add]; exact k)
theorem zr_isub (hx : p.tables.exec = Jvm.exec) (hb : c.code = cc) {a b : Int} (hd : decode cc pc = .ok (.isub, 1)) (k : W p l e R s m args below meth c H locs cells slots Q (F0 m (pc + 1) ls (.int (zi (a - b)) :: rest))) : W p l e R s m args below meth c H locs cells slots Q (F0 m pc ls (.int (zi b) :: .int (zi a) :: rest)) := lv_isub hx hb hd (by rw [zi_sub]; exact k)
theorem zr_imul (hx : p.tables.exec = Jvm.exec) (hb : c.code = cc) {a b : Int} (hd : decode cc pc = .ok (.imul, 1)) (k : W p l e R s m args below meth c H locs cells slots Q (F0 m (pc + 1) ls (.int (zi (a * b)) :: rest))) : W p l e R s m args below meth c H locs cells slots Q (F0 m pc ls (.int (zi b) :: .int (zi a) :: rest)) := lv_imul hx hb hd (by rw [zi_mul]; exact k)
theorem zr_ineg (hx : p.tables.exec = Jvm.exec) (hb : c.code = cc) {a : Int} (hd : decode cc pc = .ok (.ineg, 1)) (k : W p l e R s m args below meth c H locs cells slots Q (F0 m (pc + 1) ls (.int (zi (-a)) :: rest))) : W p l e R s m args below meth c H locs cells slots Q (F0 m pc ls (.int (zi a) :: rest)) := lv_ineg hx hb hd (by rw [zi_neg]; exact k)
theorem zr_ladd (hx : p.tables.exec = Jvm.exec) (hb : c.code = cc) {a b : Int} (hd : decode cc pc = .ok (.ladd, 1)) (k : W p l e R s m args below meth c H locs cells slots Q (F0 m (pc + 1) ls (.long (zl (a + b)) :: rest))) : W p l e R s m args below meth c H locs cells slots Q (F0 m pc ls (.long (zl b) :: .long (zl a) :: rest)) := lv_ladd hx hb hd (by rw [zl_add]; exact k)
theorem zr_lsub (hx : p.tables.exec = Jvm.exec) (hb : c.code = cc) {a b : Int} (hd : decode cc pc = .ok (.lsub, 1)) (k : W p l e R s m args below meth c H locs cells slots Q (F0 m (pc + 1) ls (.long (zl (a - b)) :: rest))) : W p l e R s m args below meth c H locs cells slots Q (F0 m pc ls (.long (zl b) :: .long (zl a) :: rest)) := lv_lsub hx hb hd (by rw [zl_sub]; exact k)
theorem zr_lmul (hx : p.tables.exec = Jvm.exec) (hb : c.code = cc) {a b : Int} (hd : decode cc pc = .ok (.lmul, 1)) (k : W p l e R s m args below meth c H locs cells slots Q (F0 m (pc + 1) ls (.long (zl (a * b)) :: rest))) : W p l e R s m args below meth c H locs cells slots Q (F0 m pc ls (.long (zl b) :: .long (zl a) :: rest)) := lv_lmul hx hb hd (by rw [zl_mul]; exact k)
theorem zr_lneg (hx : p.tables.exec = Jvm.exec) (hb : c.code = cc) {a : Int} (hd : decode cc pc = .ok (.lneg, 1)) (k : W p l e R s m args below meth c H locs cells slots Q (F0 m (pc + 1) ls (.long (zl (-a)) :: rest))) : W p l e R s m args below meth c H locs cells slots Q (F0 m pc ls (.long (zl a) :: rest)) := lv_lneg hx hb hd (by rw [zl_neg]; exact k)
theorem zr_i2l (hx : p.tables.exec = Jvm.exec) (hb : c.code = cc) {a : Int} (h : zI a) (hd : decode cc pc = .ok (.i2l, 1)) (k : W p l e R s m args below meth c H locs cells slots Q (F0 m (pc + 1) ls (.long (zl a) :: rest))) : W p l e R s m args below meth c H locs cells slots Q (F0 m pc ls (.int (zi a) :: rest)) := lv_i2l hx hb hd (zi_l h) k
theorem zr_l2i (hx : p.tables.exec = Jvm.exec) (hb : c.code = cc) {a : Int} (hd : decode cc pc = .ok (.l2i, 1)) (k : W p l e R s m args below meth c H locs cells slots Q (F0 m (pc + 1) ls (.int (zi a) :: rest))) : W p l e R s m args below meth c H locs cells slots Q (F0 m pc ls (.long (zl a) :: rest)) := lv_l2i hx hb hd (zl_i a) k
theorem zi_div {a b : Int} (ha : zI a) (hb : zI b) (h0 : 0 < b) : zi a / zi b = zi (a.tdiv b) := by
  have hne : zi b ≠ -1 := fun h => by
    have h2 := zi_t hb
    rw [h] at h2
    have : (-1 : Int32).toInt = -1 := by decide
    omega
  have h1 := Int32.toInt_div_of_ne_right (zi a) (zi b) hne
  rw [zi_t ha, zi_t hb] at h1
  rw [← h1, zi_of]
theorem zl_div {a b : Int} (ha : zL a) (hb : zL b) (h0 : 0 < b) : zl a / zl b = zl (a.tdiv b) := by
  have hne : zl b ≠ -1 := fun h => by
    have h2 := zl_t hb
    rw [h] at h2
    have : (-1 : Int64).toInt = -1 := by decide
    omega
  have h1 := Int64.toInt_div_of_ne_right (zl a) (zl b) hne
  rw [zl_t ha, zl_t hb] at h1
  rw [← h1, zl_of]
theorem zi_rem {a b : Int} (ha : zI a) (hb : zI b) (h0 : 0 < b) : zi a - zi a / zi b * zi b = zi (a.tmod b) := by
  rw [zi_div ha hb h0, zi_mul, zi_sub]
  have := Int.tdiv_mul_add_tmod a b
  congr 1
  omega
theorem zl_rem {a b : Int} (ha : zL a) (hb : zL b) (h0 : 0 < b) : zl a - zl a / zl b * zl b = zl (a.tmod b) := by
  rw [zl_div ha hb h0, zl_mul, zl_sub]
  have := Int.tdiv_mul_add_tmod a b
  congr 1
  omega
theorem zi_ne0 {b : Int} (hb : zI b) (h0 : 0 < b) : ¬ zi b = 0 := fun h => by
  have h2 := zi_t hb
  rw [h, Int32.toInt_zero] at h2
  omega
theorem zl_ne0 {b : Int} (hb : zL b) (h0 : 0 < b) : ¬ zl b = 0 := fun h => by
  have h2 := zl_t hb
  rw [h, Int64.toInt_zero] at h2
  omega
theorem zb_tdiv {A a b : Int} (h : zB (-A) A a) : zB (-A) A (a.tdiv b) := by
  have h1 := zb_abs h
  have h2 := Int.natAbs_tdiv_le_natAbs a b
  have := h.1
  have := h.2
  constructor <;> omega
theorem zr_idiv (hx : p.tables.exec = Jvm.exec) (hb : c.code = cc) {a b : Int} (ha : zI a) (hb' : zI b) (h0 : 0 < b) (hd : decode cc pc = .ok (.idiv, 1)) (k : W p l e R s m args below meth c H locs cells slots Q (F0 m (pc + 1) ls (.int (zi (a.tdiv b)) :: rest))) : W p l e R s m args below meth c H locs cells slots Q (F0 m pc ls (.int (zi b) :: .int (zi a) :: rest)) := lv_idiv hx hb hd (zi_ne0 hb' h0) (by rw [zi_div ha hb' h0]; exact k)
theorem zr_irem (hx : p.tables.exec = Jvm.exec) (hb : c.code = cc) {a b : Int} (ha : zI a) (hb' : zI b) (h0 : 0 < b) (hd : decode cc pc = .ok (.irem, 1)) (k : W p l e R s m args below meth c H locs cells slots Q (F0 m (pc + 1) ls (.int (zi (a.tmod b)) :: rest))) : W p l e R s m args below meth c H locs cells slots Q (F0 m pc ls (.int (zi b) :: .int (zi a) :: rest)) := lv_irem hx hb hd (zi_ne0 hb' h0) (by rw [zi_rem ha hb' h0]; exact k)
theorem zr_ldiv (hx : p.tables.exec = Jvm.exec) (hb : c.code = cc) {a b : Int} (ha : zL a) (hb' : zL b) (h0 : 0 < b) (hd : decode cc pc = .ok (.ldiv, 1)) (k : W p l e R s m args below meth c H locs cells slots Q (F0 m (pc + 1) ls (.long (zl (a.tdiv b)) :: rest))) : W p l e R s m args below meth c H locs cells slots Q (F0 m pc ls (.long (zl b) :: .long (zl a) :: rest)) := lv_ldiv hx hb hd (zl_ne0 hb' h0) (by rw [zl_div ha hb' h0]; exact k)
theorem zr_lrem (hx : p.tables.exec = Jvm.exec) (hb : c.code = cc) {a b : Int} (ha : zL a) (hb' : zL b) (h0 : 0 < b) (hd : decode cc pc = .ok (.lrem, 1)) (k : W p l e R s m args below meth c H locs cells slots Q (F0 m (pc + 1) ls (.long (zl (a.tmod b)) :: rest))) : W p l e R s m args below meth c H locs cells slots Q (F0 m pc ls (.long (zl b) :: .long (zl a) :: rest)) := lv_lrem hx hb hd (zl_ne0 hb' h0) (by rw [zl_rem ha hb' h0]; exact k)
theorem zr_icmp_lt (hx : p.tables.exec = Jvm.exec) (hb : c.code = cc) {a b off : Int} {tgt : Nat} (ha : zI a) (hb' : zI b) (hd : decode cc pc = .ok (.if_icmp .lt off, 3)) (ht : (pc : Int) + off = (tgt : Int)) (kt : a < b → W p l e R s m args below meth c H locs cells slots Q (F0 m tgt ls rest)) (kf : ¬ a < b → W p l e R s m args below meth c H locs cells slots Q (F0 m (pc + 3) ls rest)) : W p l e R s m args below meth c H locs cells slots Q (F0 m pc ls (.int (zi b) :: .int (zi a) :: rest)) := lv_icmp_lt hx hb hd ht (fun h => kt ((zi_lt ha hb').mp h)) (fun h => kf (fun q => h ((zi_lt ha hb').mpr q)))
theorem zr_if_lt (hx : p.tables.exec = Jvm.exec) (hb : c.code = cc) {a off : Int} {tgt : Nat} (ha : zI a) (hd : decode cc pc = .ok (.ifCond .lt off, 3)) (ht : (pc : Int) + off = (tgt : Int)) (kt : a < 0 → W p l e R s m args below meth c H locs cells slots Q (F0 m tgt ls rest)) (kf : ¬ a < 0 → W p l e R s m args below meth c H locs cells slots Q (F0 m (pc + 3) ls rest)) : W p l e R s m args below meth c H locs cells slots Q (F0 m pc ls (.int (zi a) :: rest)) := by
  have hb' : zI 0 := zI_0
  exact lv_if_lt hx hb hd ht (fun h => kt ((zi_lt ha hb').mp h)) (fun h => kf (fun q => h ((zi_lt ha hb').mpr q)))
theorem zr_icmp_ge (hx : p.tables.exec = Jvm.exec) (hb : c.code = cc) {a b off : Int} {tgt : Nat} (ha : zI a) (hb' : zI b) (hd : decode cc pc = .ok (.if_icmp .ge off, 3)) (ht : (pc : Int) + off = (tgt : Int)) (kt : ¬ a < b → W p l e R s m args below meth c H locs cells slots Q (F0 m tgt ls rest)) (kf : a < b → W p l e R s m args below meth c H locs cells slots Q (F0 m (pc + 3) ls rest)) : W p l e R s m args below meth c H locs cells slots Q (F0 m pc ls (.int (zi b) :: .int (zi a) :: rest)) := lv_icmp_ge hx hb hd ht (fun h => kt (Int.not_lt.mpr ((zi_le hb' ha).mp h))) (fun h => kf (Int.not_le.mp (fun q => h ((zi_le hb' ha).mpr q))))
theorem zr_if_ge (hx : p.tables.exec = Jvm.exec) (hb : c.code = cc) {a off : Int} {tgt : Nat} (ha : zI a) (hd : decode cc pc = .ok (.ifCond .ge off, 3)) (ht : (pc : Int) + off = (tgt : Int)) (kt : ¬ a < 0 → W p l e R s m args below meth c H locs cells slots Q (F0 m tgt ls rest)) (kf : a < 0 → W p l e R s m args below meth c H locs cells slots Q (F0 m (pc + 3) ls rest)) : W p l e R s m args below meth c H locs cells slots Q (F0 m pc ls (.int (zi a) :: rest)) := by
  have hb' : zI 0 := zI_0
  exact lv_if_ge hx hb hd ht (fun h => kt (Int.not_lt.mpr ((zi_le hb' ha).mp h))) (fun h => kf (Int.not_le.mp (fun q => h ((zi_le hb' ha).mpr q))))
theorem zr_icmp_gt (hx : p.tables.exec = Jvm.exec) (hb : c.code = cc) {a b off : Int} {tgt : Nat} (ha : zI a) (hb' : zI b) (hd : decode cc pc = .ok (.if_icmp .gt off, 3)) (ht : (pc : Int) + off = (tgt : Int)) (kt : b < a → W p l e R s m args below meth c H locs cells slots Q (F0 m tgt ls rest)) (kf : ¬ b < a → W p l e R s m args below meth c H locs cells slots Q (F0 m (pc + 3) ls rest)) : W p l e R s m args below meth c H locs cells slots Q (F0 m pc ls (.int (zi b) :: .int (zi a) :: rest)) := lv_icmp_gt hx hb hd ht (fun h => kt ((zi_lt hb' ha).mp h)) (fun h => kf (fun q => h ((zi_lt hb' ha).mpr q)))
theorem zr_if_gt (hx : p.tables.exec = Jvm.exec) (hb : c.code = cc) {a off : Int} {tgt : Nat} (ha : zI a) (hd : decode cc pc = .ok (.ifCond .gt off, 3)) (ht : (pc : Int) + off = (tgt : Int)) (kt : 0 < a → W p l e R s m args below meth c H locs cells slots Q (F0 m tgt ls rest)) (kf : ¬ 0 < a → W p l e R s m args below meth c H locs cells slots Q (F0 m (pc + 3) ls rest)) : W p l e R s m args below meth c H locs cells slots Q (F0 m pc ls (.int (zi a) :: rest)) := by
  have hb' : zI 0 := zI_0
  exact lv_if_gt hx hb hd ht (fun h => kt ((zi_lt hb' ha).mp h)) (fun h => kf (fun q => h ((zi_lt hb' ha).mpr q)))
theorem zr_icmp_le (hx : p.tables.exec = Jvm.exec) (hb : c.code = cc) {a b off : Int} {tgt : Nat} (ha : zI a) (hb' : zI b) (hd : decode cc pc = .ok (.if_icmp .le off, 3)) (ht : (pc : Int) + off = (tgt : Int)) (kt : ¬ b < a → W p l e R s m args below meth c H locs cells slots Q (F0 m tgt ls rest)) (kf : b < a → W p l e R s m args below meth c H locs cells slots Q (F0 m (pc + 3) ls rest)) : W p l e R s m args below meth c H locs cells slots Q (F0 m pc ls (.int (zi b) :: .int (zi a) :: rest)) := lv_icmp_le hx hb hd ht (fun h => kt (Int.not_lt.mpr ((zi_le ha hb').mp h))) (fun h => kf (Int.not_le.mp (fun q => h ((zi_le ha hb').mpr q))))
theorem zr_if_le (hx : p.tables.exec = Jvm.exec) (hb : c.code = cc) {a off : Int} {tgt : Nat} (ha : zI a) (hd : decode cc pc = .ok (.ifCond .le off, 3)) (ht : (pc : Int) + off = (tgt : Int)) (kt : ¬ 0 < a → W p l e R s m args below meth c H locs cells slots Q (F0 m tgt ls rest)) (kf : 0 < a → W p l e R s m args below meth c H locs cells slots Q (F0 m (pc + 3) ls rest)) : W p l e R s m args below meth c H locs cells slots Q (F0 m pc ls (.int (zi a) :: rest)) := by
  have hb' : zI 0 := zI_0
  exact lv_if_le hx hb hd ht (fun h => kt (Int.not_lt.mpr ((zi_le ha hb').mp h))) (fun h => kf (Int.not_le.mp (fun q => h ((zi_le ha hb').mpr q))))
theorem zr_icmp_eq (hx : p.tables.exec = Jvm.exec) (hb : c.code = cc) {a b off : Int} {tgt : Nat} (ha : zI a) (hb' : zI b) (hd : decode cc pc = .ok (.if_icmp .eq off, 3)) (ht : (pc : Int) + off = (tgt : Int)) (kt : a = b → W p l e R s m args below meth c H locs cells slots Q (F0 m tgt ls rest)) (kf : ¬ a = b → W p l e R s m args below meth c H locs cells slots Q (F0 m (pc + 3) ls rest)) : W p l e R s m args below meth c H locs cells slots Q (F0 m pc ls (.int (zi b) :: .int (zi a) :: rest)) := lv_icmp_eq hx hb hd ht (fun h => kt ((zi_eq ha hb').mp h)) (fun h => kf (fun q => h ((zi_eq ha hb').mpr q)))
theorem zr_if_eq (hx : p.tables.exec = Jvm.exec) (hb : c.code = cc) {a off : Int} {tgt : Nat} (ha : zI a) (hd : decode cc pc = .ok (.ifCond .eq off, 3)) (ht : (pc : Int) + off = (tgt : Int)) (kt : a = 0 → W p l e R s m args below meth c H locs cells slots Q (F0 m tgt ls rest)) (kf : ¬ a = 0 → W p l e R s m args below meth c H locs cells slots Q (F0 m (pc + 3) ls rest)) : W p l e R s m args below meth c H locs cells slots Q (F0 m pc ls (.int (zi a) :: rest)) := by
  have hb' : zI 0 := zI_0
  exact lv_if_eq hx hb hd ht (fun h => kt ((zi_eq ha hb').mp h)) (fun h => kf (fun q => h ((zi_eq ha hb').mpr q)))
theorem zr_icmp_ne (hx : p.tables.exec = Jvm.exec) (hb : c.code = cc) {a b off : Int} {tgt : Nat} (ha : zI a) (hb' : zI b) (hd : decode cc pc = .ok (.if_icmp .ne off, 3)) (ht : (pc : Int) + off = (tgt : Int)) (kt : ¬ a = b → W p l e R s m args below meth c H locs cells slots Q (F0 m tgt ls rest)) (kf : a = b → W p l e R s m args below meth c H locs cells slots Q (F0 m (pc + 3) ls rest)) : W p l e R s m args below meth c H locs cells slots Q (F0 m pc ls (.int (zi b) :: .int (zi a) :: rest)) := lv_icmp_ne hx hb hd ht (fun h => kt (fun q => h ((zi_eq ha hb').mpr q))) (fun h => kf ((zi_eq ha hb').mp h))
theorem zr_if_ne (hx : p.tables.exec = Jvm.exec) (hb : c.code = cc) {a off : Int} {tgt : Nat} (ha : zI a) (hd : decode cc pc = .ok (.ifCond .ne off, 3)) (ht : (pc : Int) + off = (tgt : Int)) (kt : ¬ a = 0 → W p l e R s m args below meth c H locs cells slots Q (F0 m tgt ls rest)) (kf : a = 0 → W p l e R s m args below meth c H locs cells slots Q (F0 m (pc + 3) ls rest)) : W p l e R s m args below meth c H locs cells slots Q (F0 m pc ls (.int (zi a) :: rest)) := by
  have hb' : zI 0 := zI_0
  exact lv_if_ne hx hb hd ht (fun h => kt (fun q => h ((zi_eq ha hb').mpr q))) (fun h => kf ((zi_eq ha hb').mp h))
theorem zl_cmp {a b : Int} (ha : zL a) (hb : zL b) : (lg_cmp (zl a) (zl b) < 0 ↔ a < b) ∧ (0 < lg_cmp (zl a) (zl b) ↔ b < a) ∧ (lg_cmp (zl a) (zl b) = 0 ↔ a = b) ∧ (0 ≤ lg_cmp (zl a) (zl b) ↔ ¬ a < b) ∧ (lg_cmp (zl a) (zl b) ≤ 0 ↔ ¬ b < a) := by
  have h1 := zl_lt hb ha
  have h2 := zl_eq ha hb
  by_cases q1 : b < a
  · have e1 : lg_cmp (zl a) (zl b) = 1 := by simp [lg_cmp, h1.mpr q1]
    rw [e1]
    refine ⟨⟨fun h => absurd h (by decide), fun h => by omega⟩, ⟨fun _ => q1, fun _ => by decide⟩, ⟨fun h => absurd h (by decide), fun h => by omega⟩, ⟨fun _ => by omega, fun _ => by decide⟩, ⟨fun h => absurd h (by decide), fun h => absurd q1 h⟩⟩
  · have n1 : ¬ zl b < zl a := fun h => q1 (h1.mp h)
    by_cases q2 : a = b
    · have e1 : lg_cmp (zl a) (zl b) = 0 := by rw [q2]; simp [lg_cmp]
      rw [e1]
      refine ⟨⟨fun h => absurd h (by decide), fun h => by omega⟩, ⟨fun h => absurd h (by decide), fun h => by omega⟩, ⟨fun _ => q2, fun _ => rfl⟩, ⟨fun _ => by omega, fun _ => by decide⟩, ⟨fun _ => q1, fun _ => by decide⟩⟩
    · have n2 : ¬ zl a = zl b := fun h => q2 (h2.mp h)
      have e1 : lg_cmp (zl a) (zl b) = -1 := by simp [lg_cmp, n1, n2]
      rw [e1]
      refine ⟨⟨fun _ => by omega, fun _ => by decide⟩, ⟨fun h => absurd h (by decide), fun h => by omega⟩, ⟨fun h => absurd h (by decide), fun h => by omega⟩, ⟨fun h => absurd h (by decide), fun h => by omega⟩, ⟨fun _ => q1, fun _ => by decide⟩⟩
theorem zr_lcmp_lt (hx : p.tables.exec = Jvm.exec) (hb : c.code = cc) {a b off : Int} {tgt : Nat} (ha : zL a) (hb' : zL b) (hc : decode cc pc = .ok (.lcmp, 1)) (hd : decode cc (pc + 1) = .ok (.ifCond .lt off, 3)) (ht : ((pc + 1 : Nat) : Int) + off = (tgt : Int)) (kt : a < b → W p l e R s m args below meth c H locs cells slots Q (F0 m tgt ls rest)) (kf : ¬ a < b → W p l e R s m args below meth c H locs cells slots Q (F0 m (pc + 4) ls rest)) : W p l e R s m args below meth c H locs cells slots Q (F0 m pc ls (.long (zl b) :: .long (zl a) :: rest)) := W.lcmp hx hb hc (lv_if_lt hx hb hd ht (fun h => kt ((zl_cmp ha hb').1.mp h)) (fun h => kf (fun q => h ((zl_cmp ha hb').1.mpr q))))
theorem zr_lcmp_ge (hx : p.tables.exec = Jvm.exec) (hb : c.code = cc) {a b off : Int} {tgt : Nat} (ha : zL a) (hb' : zL b) (hc : decode cc pc = .ok (.lcmp, 1)) (hd : decode cc (pc + 1) = .ok (.ifCond .ge off, 3)) (ht : ((pc + 1 : Nat) : Int) + off = (tgt : Int)) (kt : ¬ a < b → W p l e R s m args below meth c H locs cells slots Q (F0 m tgt ls rest)) (kf : a < b → W p l e R s m args below meth c H locs cells slots Q (F0 m (pc + 4) ls rest)) : W p l e R s m args below meth c H locs cells slots Q (F0 m pc ls (.long (zl b) :: .long (zl a) :: rest)) := W.lcmp hx hb hc (lv_if_ge hx hb hd ht (fun h => kt ((zl_cmp ha hb').2.2.2.1.mp h)) (fun h => kf (Decidable.byContradiction (fun q => h ((zl_cmp ha hb').2.2.2.1.mpr q)))))
theorem zr_lcmp_gt (hx : p.tables.exec = Jvm.exec) (hb : c.code = cc) {a b off : Int} {tgt : Nat} (ha : zL a) (hb' : zL b) (hc : decode cc pc = .ok (.lcmp, 1)) (hd : decode cc (pc + 1) = .ok (.ifCond .gt off, 3)) (ht : ((pc + 1 : Nat) : Int) + off = (tgt : Int)) (kt : b < a → W p l e R s m args below meth c H locs cells slots Q (F0 m tgt ls rest)) (kf : ¬ b < a → W p l e R s m args below meth c H locs cells slots Q (F0 m (pc + 4) ls rest)) : W p l e R s m args below meth c H locs cells slots Q (F0 m pc ls (.long (zl b) :: .long (zl a) :: rest)) := W.lcmp hx hb hc (lv_if_gt hx hb hd ht (fun h => kt ((zl_cmp ha hb').2.1.mp h)) (fun h => kf (fun q => h ((zl_cmp ha hb').2.1.mpr q))))
theorem zr_lcmp_le (hx : p.tables.exec = Jvm.exec) (hb : c.code = cc) {a b off : Int} {tgt : Nat} (ha : zL a) (hb' : zL b) (hc : decode cc pc = .ok (.lcmp, 1)) (hd : decode cc (pc + 1) = .ok (.ifCond .le off, 3)) (ht : ((pc + 1 : Nat) : Int) + off = (tgt : Int)) (kt : ¬ b < a → W p l e R s m args below meth c H locs cells slots Q (F0 m tgt ls rest)) (kf : b < a → W p l e R s m args below meth c H locs cells slots Q (F0 m (pc + 4) ls rest)) : W p l e R s m args below meth c H locs cells slots Q (F0 m pc ls (.long (zl b) :: .long (zl a) :: rest)) := W.lcmp hx hb hc (lv_if_le hx hb hd ht (fun h => kt ((zl_cmp ha hb').2.2.2.2.mp h)) (fun h => kf (Decidable.byContradiction (fun q => h ((zl_cmp ha hb').2.2.2.2.mpr q)))))
theorem zr_lcmp_eq (hx : p.tables.exec = Jvm.exec) (hb : c.code = cc) {a b off : Int} {tgt : Nat} (ha : zL a) (hb' : zL b) (hc : decode cc pc = .ok (.lcmp, 1)) (hd : decode cc (pc + 1) = .ok (.ifCond .eq off, 3)) (ht : ((pc + 1 : Nat) : Int) + off = (tgt : Int)) (kt : a = b → W p l e R s m args below meth c H locs cells slots Q (F0 m tgt ls rest)) (kf : ¬ a = b → W p l e R s m args below meth c H locs cells slots Q (F0 m (pc + 4) ls rest)) : W p l e R s m args below meth c H locs cells slots Q (F0 m pc ls (.long (zl b) :: .long (zl a) :: rest)) := W.lcmp hx hb hc (lv_if_eq hx hb hd ht (fun h => kt ((zl_cmp ha hb').2.2.1.mp h)) (fun h => kf (fun q => h ((zl_cmp ha hb').2.2.1.mpr q))))
theorem zr_lcmp_ne (hx : p.tables.exec = Jvm.exec) (hb : c.code = cc) {a b off : Int} {tgt : Nat} (ha : zL a) (hb' : zL b) (hc : decode cc pc = .ok (.lcmp, 1)) (hd : decode cc (pc + 1) = .ok (.ifCond .ne off, 3)) (ht : ((pc + 1 : Nat) : Int) + off = (tgt : Int)) (kt : ¬ a = b → W p l e R s m args below meth c H locs cells slots Q (F0 m tgt ls rest)) (kf : a = b → W p l e R s m args below meth c H locs cells slots Q (F0 m (pc + 4) ls rest)) : W p l e R s m args below meth c H locs cells slots Q (F0 m pc ls (.long (zl b) :: .long (zl a) :: rest)) := W.lcmp hx hb hc (lv_if_ne hx hb hd ht (fun h => kt (fun q => h ((zl_cmp ha hb').2.2.1.mpr q))) (fun h => kf ((zl_cmp ha hb').2.2.1.mp h)))
theorem zr_iald (hx : p.tables.exec = Jvm.exec) (hb : c.code = cc) {D : va_G} {cl : List vw_C} {tys : List (ClassId × FieldType)} {ws : va_W} {q : Nat} (hK : va_K D cl tys s) (hP : va_P D cl ws H) (q0 t0 : Nat) {cA : ClassId} {n : Nat} {g : Int → Int} (ha : ws[q0]? = some (q, .inl (cA, n, .inl (zA g)))) (ht : tys[t0]? = some (cA, .int)) {i : Int} (h0 : 0 ≤ i) (h1 : i < (n : Int)) (hn : (n : Int) ≤ 2147483647) (hd : decode cc pc = .ok (.iaload, 1)) (k : W p l e R s m args below meth c H locs cells slots Q (F0 m (pc + 1) ls (.int (zi (g i)) :: rest))) : W p l e R s m args below meth c H locs cells slots Q (F0 m pc ls (.int (zi i) :: .ref q :: rest)) := va_iald hx hb hK hP q0 t0 ha ht (zp_in h0 h1 hn) hd (by rw [zA_at g h0 (by omega)]; exact k)
theorem zr_iast (hx : p.tables.exec = Jvm.exec) (hb : c.code = cc) {D : va_G} {cl : List vw_C} {tys : List (ClassId × FieldType)} {ws : va_W} {q : Nat} {A : Nat → Prop} {H0 : Heap} (hK : va_K D cl tys s) (hP : va_P D cl ws H) (hD : va_D A ws) (hS : va_S A H0 H locs) (q0 t0 : Nat) {cA : ClassId} {n : Nat} {g : Int → Int} (ha : ws[q0]? = some (q, .inl (cA, n, .inl (zA g)))) (ht : tys[t0]? = some (cA, .int)) {i v : Int} (h0 : 0 ≤ i) (h1 : i < (n : Int)) (hn : (n : Int) ≤ 2147483647) (hd : decode cc pc = .ok (.iastore, 1)) (kk : ∀ (H1 : Heap) (locs1 : List Loc), va_P D cl (ws.set q0 (q, .inl (cA, n, .inl (zA (zu g i v))))) H1 → va_D A (ws.set q0 (q, .inl (cA, n, .inl (zA (zu g i v))))) → va_S A H0 H1 locs1 → W p l e R s m args below meth c H1 locs1 cells slots Q (F0 m (pc + 1) ls rest)) : W p l e R s m args below meth c H locs cells slots Q (F0 m pc ls (.int (zi v) :: .int (zi i) :: .ref q :: rest)) := va_iast hx hb hK hP hD hS q0 t0 ha ht (zp_in h0 h1 hn) hd (fun H1 locs1 hP1 hD1 hS1 => kk H1 locs1 (by rw [← zA_up g h0 (by omega)]; exact hP1) (by rw [← zA_up g h0 (by omega)]; exact hD1) hS1)
def zmax (a b : Int) : Int := if a < b then b else a
def zmin (a b : Int) : Int := if b < a then b else a
def zabs (a : Int) : Int := if 0 ≤ a then a else -a
theorem zi_if {c : Prop} [Decidable c] (a b : Int) : (if c then zi a else zi b) = zi (if c then a else b) := by split <;> rfl
theorem zl_if {c : Prop} [Decidable c] (a b : Int) : (if c then zl a else zl b) = zl (if c then a else b) := by split <;> rfl
theorem zi_max {a b : Int} (ha : zI a) (hb : zI b) : (if zi a < zi b then zi b else zi a) = zi (zmax a b) := by
  rw [zi_if]
  unfold zmax
  by_cases h : a < b
  · rw [if_pos h, if_pos ((zi_lt ha hb).mpr h)]
  · rw [if_neg h, if_neg (fun q => h ((zi_lt ha hb).mp q))]
theorem zi_min {a b : Int} (ha : zI a) (hb : zI b) : (if zi b < zi a then zi b else zi a) = zi (zmin a b) := by
  rw [zi_if]
  unfold zmin
  by_cases h : b < a
  · rw [if_pos h, if_pos ((zi_lt hb ha).mpr h)]
  · rw [if_neg h, if_neg (fun q => h ((zi_lt hb ha).mp q))]
theorem zi_abs {a : Int} (ha : zI a) : (if 0 ≤ zi a then zi a else 0 - zi a) = zi (zabs a) := by
  rw [show (0 : Int32) - zi a = zi (-a) from by rw [← zi_neg]; exact Int32.zero_sub _, zi_if]
  unfold zabs
  by_cases h : 0 ≤ a
  · rw [if_pos h, if_pos (show (0 : Int32) ≤ zi a from (zi_le zI_0 ha).mpr h)]
  · rw [if_neg h, if_neg (show ¬ (0 : Int32) ≤ zi a from fun q => h ((zi_le zI_0 ha).mp q))]
theorem zb_max {lo hi a b : Int} (ha : zB lo hi a) (hb : zB lo hi b) : zB lo hi (zmax a b) := by unfold zmax; split; exact hb; exact ha
theorem zb_min {lo hi a b : Int} (ha : zB lo hi a) (hb : zB lo hi b) : zB lo hi (zmin a b) := by unfold zmin; split; exact hb; exact ha
theorem zb_zabs {A a : Int} (ha : zB (-A) A a) : zB 0 A (zabs a) := by
  obtain ⟨h1, h2⟩ := ha
  unfold zabs
  split <;> constructor <;> omega
theorem zr_max (hx : p.tables.exec = Jvm.exec) (hb : c.code = cc) (hml : c.maxLocals = ls.size) {own : String} {index : Nat} (hown : s.vm.findClass own = some m.cls) (hlink : (Cond.methodLink own index Lib.Math.max.name).before args s = true) (hstat : (Cond.static Lib.Math.max.name).before args s = true) (hini : (Cond.initialized "java/lang/Math").before args s = true) (hcode : (Cond.code Lib.Math.max.name Lib.Math.max.code 2 (some .int)).before args s = true) (hframes : 1 ≤ R.frames) (hlocals : (rest.map fun v => v.category).sum + 13 ≤ R.locals) (hc : cells ≤ R.cells) (hs : slots ≤ R.slots) {a b : Int} (ha : zI a) (hb' : zI b) (hd : decode cc pc = .ok (.invokestatic index, 3)) (k : W p l e R s m args below meth c H locs cells slots Q (F0 m (pc + 3) ls (.int (zi (zmax a b)) :: rest))) : W p l e R s m args below meth c H locs cells slots Q (F0 m pc ls (.int (zi b) :: .int (zi a) :: rest)) := va_mmax hx hb hml hown hlink hstat hini hcode hframes hlocals hc hs hd (by rw [zi_max ha hb']; exact k)
theorem zr_min (hx : p.tables.exec = Jvm.exec) (hb : c.code = cc) (hml : c.maxLocals = ls.size) {own : String} {index : Nat} (hown : s.vm.findClass own = some m.cls) (hlink : (Cond.methodLink own index Lib.Math.min.name).before args s = true) (hstat : (Cond.static Lib.Math.min.name).before args s = true) (hini : (Cond.initialized "java/lang/Math").before args s = true) (hcode : (Cond.code Lib.Math.min.name Lib.Math.min.code 2 (some .int)).before args s = true) (hframes : 1 ≤ R.frames) (hlocals : (rest.map fun v => v.category).sum + 13 ≤ R.locals) (hc : cells ≤ R.cells) (hs : slots ≤ R.slots) {a b : Int} (ha : zI a) (hb' : zI b) (hd : decode cc pc = .ok (.invokestatic index, 3)) (k : W p l e R s m args below meth c H locs cells slots Q (F0 m (pc + 3) ls (.int (zi (zmin a b)) :: rest))) : W p l e R s m args below meth c H locs cells slots Q (F0 m pc ls (.int (zi b) :: .int (zi a) :: rest)) := va_mmin hx hb hml hown hlink hstat hini hcode hframes hlocals hc hs hd (by rw [zi_min ha hb']; exact k)
theorem zr_abs (hx : p.tables.exec = Jvm.exec) (hb : c.code = cc) (hml : c.maxLocals = ls.size) {own : String} {index : Nat} (hown : s.vm.findClass own = some m.cls) (hlink : (Cond.methodLink own index Lib.Math.abs.name).before args s = true) (hstat : (Cond.static Lib.Math.abs.name).before args s = true) (hini : (Cond.initialized "java/lang/Math").before args s = true) (hcode : (Cond.code Lib.Math.abs.name Lib.Math.abs.code 1 (some .int)).before args s = true) (hframes : 1 ≤ R.frames) (hlocals : (rest.map fun v => v.category).sum + 13 ≤ R.locals) (hc : cells ≤ R.cells) (hs : slots ≤ R.slots) {a : Int} (ha : zI a) (hd : decode cc pc = .ok (.invokestatic index, 3)) (k : W p l e R s m args below meth c H locs cells slots Q (F0 m (pc + 3) ls (.int (zi (zabs a)) :: rest))) : W p l e R s m args below meth c H locs cells slots Q (F0 m pc ls (.int (zi a) :: rest)) := va_mabs hx hb hml hown hlink hstat hini hcode hframes hlocals hc hs hd (by rw [zi_abs ha]; exact k)
def zR (v : Value) : Array Value → State → Outcome → State → Prop := fun _ st oc t => oc = .returned (some v) ∧ t.heap = st.heap
def zQ (v : Option Value) (P : Heap → Prop) (A : Nat → Prop) : Array Value → State → Outcome → State → Prop := fun _ st oc t => oc = .returned v ∧ P t.heap ∧ va_F A st t
variable {st0 : List Value} {a : Array Value} {A0 A1 : Nat → Prop} {H0 : Heap} {free : Addr → Prop}
theorem zc_n {v : Value} (hr : va_Run p l e R s m args below meth c H locs cells slots 0 0 (F0 m pc ls st0) rest (zR v a) (fun _ => False)) (kk : W p l e R s m args below meth c H locs cells slots Q (F0 m (pc + 3) ls (v :: rest))) : W p l e R s m args below meth c H locs cells slots Q (F0 m pc ls st0) := by
  intro T hT X
  obtain ⟨w, st₀, t, T', L, h0, X', hL, e1, e2, ⟨hv, hh⟩, st⟩ := hr T hT X
  cases hv
  obtain ⟨t2, a1, b1⟩ := kk T' (by rw [e1, hh, h0]) (Stand.forget X' (fun q h => (hL q h).elim))
  exact ⟨t2, st t2 a1, b1⟩
theorem zc_w {mc ms : Nat} {v : Option Value} {P : Heap → Prop} (hr : va_Run p l e R s m args below meth c H locs cells slots mc ms (F0 m pc ls st0) rest (zQ v P A1 a) free) (hS : va_S A0 H0 H locs) (hA : ∀ q, q < H.size → A1 q → A0 q) (hf : ∀ q, free q → A0 q)
    (kk : ∀ (H1 : Heap) (locs1 : List Loc), P H1 → H.size ≤ H1.size → (∀ q : Nat, q < H.size → ¬ A1 q → H1[q]? = H[q]?) → va_S A0 H0 H1 locs1 → W p l e R s m args below meth c H1 locs1 (cells + mc) (slots + ms) Q (F0 m (pc + 3) ls (v.toList ++ rest))) : W p l e R s m args below meth c H locs cells slots Q (F0 m pc ls st0) := by
  intro T hT X
  obtain ⟨w, st₀, t, T', L, h0, X', hL, e1, e2, ⟨hv, hp, hz, hk⟩, st⟩ := hr T hT X
  cases hv
  rw [h0] at hz hk
  obtain ⟨t2, a1, b1⟩ := kk T'.heap (locs ++ L) (by rw [e1]; exact hp) (by rw [e1]; exact hz) (fun q h1 h2 => by rw [e1]; exact hk q h1 h2)
    ⟨Nat.le_trans hS.1 (by rw [e1]; exact hz), fun q h1 h2 => by rw [e1, hk q (Nat.lt_of_lt_of_le h1 hS.1) (fun z => h2 (hA q (Nat.lt_of_lt_of_le h1 hS.1) z))]; exact hS.2.1 q h1 h2, fun q hq => by
      rcases List.mem_append.mp hq with h | h
      · exact hS.2.2 q h
      · exact hf _ (hL q h)⟩ T' rfl X'
  exact ⟨t2, st t2 a1, b1⟩
end ZR
section ZH
variable {p : Program} {l : Launch} {e : Env} {R : Room} {s : State} {m : MethodId} {args : Array Value} {below : List Frame} {meth : Method} {c : Code} {H : Heap} {locs : List Loc} {cells slots : Nat} {Q : State → Prop}
variable {cc : ByteArray} {pc : Nat} {ls : Array Slot} {rest : List Value}
/-- the head of any method -/
theorem zh {y : MethodName} {ws ws' : List Cond} {rm : Room} {av : List Value} {B : State → Prop} {Qc : Array Value → State → Outcome → State → Prop} {mc ms : Nat} {free : Addr → Prop} {maxL : Nat} {ret : Option FieldType} {C : String}
    (hy : plainName y.cls = true) (hyc : y.cls = C) (hw : ws = Cond.code y cc maxL ret :: ws') (hn : (lg_sl av).length ≤ maxL)
    (body : ∀ (p : Program) (e : Env) (s : State) (m : MethodId) (below : List Frame) (meth : Method) (c : Code) (ls : Array Slot), p.tables.exec = Jvm.exec → c.code = cc → meth.sig.returnType = ret → meth.locks = false → c.maxLocals = maxL → s.vm.findClass C = some m.cls → meth.name = y.name → (∀ w ∈ ws, w.before av.toArray s = true) → lv_has ls maxL (lv_args 0 av) → B s →
      W p l e rm s m av.toArray below meth c s.heap [] 0 0 (MQ below Qc av.toArray s mc ms free) (F0 m 0 ls [])) : Met l y ws rm (va_Pc av B) Qc mc ms free := by
  refine Met.ofW (cc := cc) (maxL := maxL) (ret := ret) hy hw ?_
  intro p e s m args below meth c s₁ BB hml hP
  obtain ⟨rfl, hB⟩ := hP
  have hts := atoms_spec (ws := ws) BB.pre
  have hown : s.vm.findClass C = some m.cls := hyc ▸ findClass_of_methodNamed BB.named
  have hl := lv_entry av (n := maxL) hn
  rw [lg_entry_eq]
  exact body p e s m below meth c _ BB.exec BB.bytes BB.returns BB.notSynchronized hml hown (name_of_methodNamed BB.named BB.method).1 hts hl hB
theorem ze_i (hx : p.tables.exec = Jvm.exec) (hb : c.code = cc) (hr : meth.sig.returnType = some .int) (hlocks : meth.locks = false) {a r : Int} (hq : a = r) (hd : decode cc pc = .ok (.ireturn, 1)) :
    W p l e R s m args below meth c s.heap [] 0 0 (MQ below (zR (.int (zi r))) args s 0 0 (fun _ => False)) (F0 m pc ls [.int (zi a)]) :=
  W.iret hx hb hr (fun t ht _ => ⟨by rw [hq], ht⟩) (fun q h => nomatch h) hd hlocks
theorem ze_l (hx : p.tables.exec = Jvm.exec) (hb : c.code = cc) (hr : meth.sig.returnType = some .long) (hlocks : meth.locks = false) {a r : Int} (hq : a = r) (hd : decode cc pc = .ok (.lreturn, 1)) :
    W p l e R s m args below meth c s.heap [] 0 0 (MQ below (zR (.long (zl r))) args s 0 0 (fun _ => False)) (F0 m pc ls [.long (zl a)]) :=
  W.lret hx hb hr (fun t ht _ => ⟨by rw [hq], ht⟩) (fun q h => nomatch h) hd hlocks
theorem zn_z {a : Int} (h : zB 0 1 a) : narrow .boolean (.int (zi a)) = .int (zi a) := by
  obtain ⟨h1, h2⟩ := h
  rcases (show a = 0 ∨ a = 1 by omega) with rfl | rfl <;> rfl
theorem ze_z (hx : p.tables.exec = Jvm.exec) (hb : c.code = cc) (hr : meth.sig.returnType = some .boolean) (hlocks : meth.locks = false) {a r : Int} (hz : zB 0 1 a) (hq : a = r) (hd : decode cc pc = .ok (.ireturn, 1)) :
    W p l e R s m args below meth c s.heap [] 0 0 (MQ below (zR (.int (zi r))) args s 0 0 (fun _ => False)) (F0 m pc ls [.int (zi a)]) :=
  W.zret hx hb hr (zn_z hz) (fun t ht _ => ⟨by rw [hq], ht⟩) (fun q h => nomatch h) hd hlocks
theorem zw_i {P : Heap → Prop} {A : Nat → Prop} (hx : p.tables.exec = Jvm.exec) (hb : c.code = cc) (hr : meth.sig.returnType = some .int) (hlocks : meth.locks = false) {a r : Int} (hq : a = r) (hP : P H) (hS : va_S A s.heap H locs) (hd : decode cc pc = .ok (.ireturn, 1)) :
    W p l e R s m args below meth c H locs cells slots (MQ below (zQ (some (.int (zi r))) P A) args s cells slots A) (F0 m pc ls [.int (zi a)]) :=
  W.iret hx hb hr (fun t ht _ => ⟨by rw [hq], by rw [ht]; exact hP, hS.F ht⟩) hS.2.2 hd hlocks
theorem zw_z {P : Heap → Prop} {A : Nat → Prop} (hx : p.tables.exec = Jvm.exec) (hb : c.code = cc) (hr : meth.sig.returnType = some .boolean) (hlocks : meth.locks = false) {a r : Int} (hz : zB 0 1 a) (hq : a = r) (hP : P H) (hS : va_S A s.heap H locs) (hd : decode cc pc = .ok (.ireturn, 1)) :
    W p l e R s m args below meth c H locs cells slots (MQ below (zQ (some (.int (zi r))) P A) args s cells slots A) (F0 m pc ls [.int (zi a)]) :=
  W.zret hx hb hr (zn_z hz) (fun t ht _ => ⟨by rw [hq], by rw [ht]; exact hP, hS.F ht⟩) hS.2.2 hd hlocks
theorem zw_v {P : Heap → Prop} {A : Nat → Prop} (hx : p.tables.exec = Jvm.exec) (hb : c.code = cc) (hr : meth.sig.returnType = none) (hlocks : meth.locks = false) (hP : P H) (hS : va_S A s.heap H locs) (hd : decode cc pc = .ok (.return_, 1)) :
    W p l e R s m args below meth c H locs cells slots (MQ below (zQ none P A) args s cells slots A) (F0 m pc ls []) :=
  W.vret hx hb hr (fun t ht _ => ⟨rfl, by rw [ht]; exact hP, hS.F ht⟩) hS.2.2 hd hlocks
end ZH
theorem zb_tdivp {al ah a b c : Int} (h : zB al ah a) (h0 : 0 ≤ al) (hc : 0 < c) (hb : c ≤ b) : zB 0 (ah / c) (a.tdiv b) := by
  have ha : 0 ≤ a := Int.le_trans h0 h.1
  have hb0 : 0 < b := Int.lt_of_lt_of_le hc hb
  rw [Int.tdiv_eq_ediv_of_nonneg ha]
  have h1 : 0 ≤ a / b := Int.ediv_nonneg ha (Int.le_of_lt hb0)
  refine ⟨h1, Int.le_ediv_of_mul_le hc ?_⟩
  have h2 : a / b * b ≤ a := Int.ediv_mul_le a (Int.ne_of_gt hb0)
  have h3 : a / b * c ≤ a / b * b := Int.mul_le_mul_of_nonneg_left hb h1
  exact Int.le_trans h3 (Int.le_trans h2 h.2)
theorem zb_tmodp {al ah bl bh a b : Int} (h : zB al ah a) (g : zB bl bh b) (h0 : 0 ≤ al) (hc : 0 < bl) : zB 0 (bh - 1) (a.tmod b) := by
  have ha : 0 ≤ a := Int.le_trans h0 h.1
  have hb0 : 0 < b := Int.lt_of_lt_of_le hc g.1
  rw [Int.tmod_eq_emod_of_nonneg ha]
  have h1 := Int.emod_nonneg a (Int.ne_of_gt hb0)
  have h2 := Int.emod_lt_of_pos a hb0
  have := g.2
  constructor <;> omega
theorem zp_cast (k : Nat) : (2 : Int) ^ k = ((2 ^ k : Nat) : Int) := by
  induction k with
  | zero => rfl
  | succ k ih => rw [Int.pow_succ, ih, Nat.pow_succ, Int.natCast_mul]; rfl
theorem zb_pow2 {lo b : Int} {n : Nat} (h : zB lo (n : Int) b) (_h0 : 0 ≤ lo) : zB 1 ((2 : Int) ^ n) (2 ^ b.toNat) := by
  rw [zp_cast, zp_cast]
  have h1 : b.toNat ≤ n := by have := h.2; omega
  have h2 : 2 ^ b.toNat ≤ 2 ^ n := Nat.pow_le_pow_right (by decide) h1
  have h3 : 0 < 2 ^ b.toNat := Nat.pow_pos (by decide)
  constructor <;> omega
theorem zi_shl1 : ∀ n : Nat, n < 31 → zi 1 <<< (zi (n : Int) &&& 31) = zi ((2 : Int) ^ n) := by decide +kernel
section ZR2
variable {p : Program} {l : Launch} {e : Env} {R : Room} {s : State} {m : MethodId} {args : Array Value} {below : List Frame} {meth : Method} {c : Code} {H : Heap} {locs : List Loc} {cells slots : Nat} {Q : State → Prop}
variable {cc : ByteArray} {pc : Nat} {ls : Array Slot} {rest : List Value}
theorem zr_shl1 (hx : p.tables.exec = Jvm.exec) (hb : c.code = cc) {b : Int} (h : zB 0 30 b) (hd : decode cc pc = .ok (.ishl, 1)) (k : W p l e R s m args below meth c H locs cells slots Q (F0 m (pc + 1) ls (.int (zi (2 ^ b.toNat)) :: rest))) : W p l e R s m args below meth c H locs cells slots Q (F0 m pc ls (.int (zi b) :: .int (zi 1) :: rest)) :=
  lv_ishl hx hb hd (by
    have h1 := zi_shl1 b.toNat (by have := h.2; omega)
    rw [Int.toNat_of_nonneg h.1] at h1
    rw [h1]
    exact k)
end ZR2
