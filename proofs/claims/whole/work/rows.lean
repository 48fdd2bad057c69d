section
-- ===== PART A: goes FIRST, ahead of the names: the tables' words, and 'selects' of the private methods out of them =====
/-- a private method of a class that the tables say can be made, by its rows of tables_1 -/
def lw_okq (q : MethodName × Nat) : Prop := (q.1.cls ≠ "java/lang/invoke/MethodHandle" ∧ q.1.cls ≠ "java/lang/invoke/VarHandle") ∧ Cond.instantiable q.1.cls q.2 ∈ tables_1 ∧ Cond.privateMethod q.1 ∈ tables_1 ∧ Cond.instanceMethod q.1 ∈ tables_1
theorem lw_p0 : lw_okq (⟨"SightRows", "stepBetween", "(II)I"⟩, 13) := ⟨⟨by decide +kernel, by decide +kernel⟩, List.mem_of_getElem? (i := 6) (by decide +kernel), List.mem_of_getElem? (i := 108) (by decide +kernel), List.mem_of_getElem? (i := 109) (by decide +kernel)⟩
theorem lw_p1 : lw_okq (⟨"SightRows", "squareBetween", "(II)J"⟩, 13) := ⟨⟨by decide +kernel, by decide +kernel⟩, List.mem_of_getElem? (i := 6) (by decide +kernel), List.mem_of_getElem? (i := 112) (by decide +kernel), List.mem_of_getElem? (i := 113) (by decide +kernel)⟩
theorem lw_p2 : lw_okq (⟨"SightRows", "isStation", "(I)Z"⟩, 13) := ⟨⟨by decide +kernel, by decide +kernel⟩, List.mem_of_getElem? (i := 6) (by decide +kernel), List.mem_of_getElem? (i := 133) (by decide +kernel), List.mem_of_getElem? (i := 134) (by decide +kernel)⟩
theorem lw_p3 : lw_okq (⟨"SightRows$Boxes", "add", "(IIIII)I"⟩, 10) := ⟨⟨by decide +kernel, by decide +kernel⟩, List.mem_of_getElem? (i := 14) (by decide +kernel), List.mem_of_getElem? (i := 144) (by decide +kernel), List.mem_of_getElem? (i := 145) (by decide +kernel)⟩
theorem lw_p4 : lw_okq (⟨"SightRows", "interruption", "(II)I"⟩, 13) := ⟨⟨by decide +kernel, by decide +kernel⟩, List.mem_of_getElem? (i := 6) (by decide +kernel), List.mem_of_getElem? (i := 164) (by decide +kernel), List.mem_of_getElem? (i := 165) (by decide +kernel)⟩
theorem lw_p5 : lw_okq (⟨"SightRows", "isGroundAbove", "(III)Z"⟩, 13) := ⟨⟨by decide +kernel, by decide +kernel⟩, List.mem_of_getElem? (i := 6) (by decide +kernel), List.mem_of_getElem? (i := 171) (by decide +kernel), List.mem_of_getElem? (i := 172) (by decide +kernel)⟩
theorem lw_p6 : lw_okq (⟨"SightRows", "isBankInWay", "(III)Z"⟩, 13) := ⟨⟨by decide +kernel, by decide +kernel⟩, List.mem_of_getElem? (i := 6) (by decide +kernel), List.mem_of_getElem? (i := 178) (by decide +kernel), List.mem_of_getElem? (i := 179) (by decide +kernel)⟩
theorem lw_p7 : lw_okq (⟨"SightRows", "crossAt", "(III)J"⟩, 13) := ⟨⟨by decide +kernel, by decide +kernel⟩, List.mem_of_getElem? (i := 6) (by decide +kernel), List.mem_of_getElem? (i := 182) (by decide +kernel), List.mem_of_getElem? (i := 183) (by decide +kernel)⟩
theorem lw_p8 : lw_okq (⟨"SightRows$Boxes", "firstAcross", "(IIIIII)I"⟩, 10) := ⟨⟨by decide +kernel, by decide +kernel⟩, List.mem_of_getElem? (i := 14) (by decide +kernel), List.mem_of_getElem? (i := 192) (by decide +kernel), List.mem_of_getElem? (i := 193) (by decide +kernel)⟩
theorem lw_p9 : lw_okq (⟨"SightRows$Boxes", "takeWhole", "()V"⟩, 10) := ⟨⟨by decide +kernel, by decide +kernel⟩, List.mem_of_getElem? (i := 14) (by decide +kernel), List.mem_of_getElem? (i := 196) (by decide +kernel), List.mem_of_getElem? (i := 197) (by decide +kernel)⟩
theorem lw_p10 : lw_okq (⟨"SightRows$Boxes", "narrow", "(IIII)Z"⟩, 10) := ⟨⟨by decide +kernel, by decide +kernel⟩, List.mem_of_getElem? (i := 14) (by decide +kernel), List.mem_of_getElem? (i := 200) (by decide +kernel), List.mem_of_getElem? (i := 201) (by decide +kernel)⟩
theorem lw_p11 : lw_okq (⟨"SightRows$Boxes", "dipsBelow", "(JJJ)Z"⟩, 10) := ⟨⟨by decide +kernel, by decide +kernel⟩, List.mem_of_getElem? (i := 14) (by decide +kernel), List.mem_of_getElem? (i := 205) (by decide +kernel), List.mem_of_getElem? (i := 206) (by decide +kernel)⟩
theorem lw_p12 : lw_okq (⟨"SightRows", "sightFrom", "(IZ)I"⟩, 13) := ⟨⟨by decide +kernel, by decide +kernel⟩, List.mem_of_getElem? (i := 6) (by decide +kernel), List.mem_of_getElem? (i := 213) (by decide +kernel), List.mem_of_getElem? (i := 214) (by decide +kernel)⟩
theorem lw_p13 : lw_okq (⟨"SightRows", "needWith", "(IZI)I"⟩, 13) := ⟨⟨by decide +kernel, by decide +kernel⟩, List.mem_of_getElem? (i := 6) (by decide +kernel), List.mem_of_getElem? (i := 221) (by decide +kernel), List.mem_of_getElem? (i := 222) (by decide +kernel)⟩
theorem lw_p14 : lw_okq (⟨"SightRows", "slopeBeyond", "(IZ)J"⟩, 13) := ⟨⟨by decide +kernel, by decide +kernel⟩, List.mem_of_getElem? (i := 6) (by decide +kernel), List.mem_of_getElem? (i := 228) (by decide +kernel), List.mem_of_getElem? (i := 229) (by decide +kernel)⟩
theorem lw_p15 : lw_okq (⟨"SightRows", "isBlind", "(IZ)Z"⟩, 13) := ⟨⟨by decide +kernel, by decide +kernel⟩, List.mem_of_getElem? (i := 6) (by decide +kernel), List.mem_of_getElem? (i := 242) (by decide +kernel), List.mem_of_getElem? (i := 243) (by decide +kernel)⟩
def lw_privs_1 : List (MethodName × Nat) := [(⟨"SightRows", "stepBetween", "(II)I"⟩, 13), (⟨"SightRows", "squareBetween", "(II)J"⟩, 13), (⟨"SightRows", "isStation", "(I)Z"⟩, 13), (⟨"SightRows$Boxes", "add", "(IIIII)I"⟩, 10), (⟨"SightRows", "interruption", "(II)I"⟩, 13), (⟨"SightRows", "isGroundAbove", "(III)Z"⟩, 13), (⟨"SightRows", "isBankInWay", "(III)Z"⟩, 13), (⟨"SightRows", "crossAt", "(III)J"⟩, 13), (⟨"SightRows$Boxes", "firstAcross", "(IIIIII)I"⟩, 10), (⟨"SightRows$Boxes", "takeWhole", "()V"⟩, 10), (⟨"SightRows$Boxes", "narrow", "(IIII)Z"⟩, 10), (⟨"SightRows$Boxes", "dipsBelow", "(JJJ)Z"⟩, 10), (⟨"SightRows", "sightFrom", "(IZ)I"⟩, 13), (⟨"SightRows", "needWith", "(IZI)I"⟩, 13), (⟨"SightRows", "slopeBeyond", "(IZ)J"⟩, 13), (⟨"SightRows", "isBlind", "(IZ)Z"⟩, 13)]
theorem lw_r1 : ∀ q ∈ lw_privs_1, lw_okq q := List.forall_mem_cons.mpr ⟨lw_p0, List.forall_mem_cons.mpr ⟨lw_p1, List.forall_mem_cons.mpr ⟨lw_p2, List.forall_mem_cons.mpr ⟨lw_p3, List.forall_mem_cons.mpr ⟨lw_p4, List.forall_mem_cons.mpr ⟨lw_p5, List.forall_mem_cons.mpr ⟨lw_p6, List.forall_mem_cons.mpr ⟨lw_p7, List.forall_mem_cons.mpr ⟨lw_p8, List.forall_mem_cons.mpr ⟨lw_p9, List.forall_mem_cons.mpr ⟨lw_p10, List.forall_mem_cons.mpr ⟨lw_p11, List.forall_mem_cons.mpr ⟨lw_p12, List.forall_mem_cons.mpr ⟨lw_p13, List.forall_mem_cons.mpr ⟨lw_p14, List.forall_mem_cons.mpr ⟨lw_p15, fun _ h => absurd h List.not_mem_nil⟩⟩⟩⟩⟩⟩⟩⟩⟩⟩⟩⟩⟩⟩⟩⟩
theorem lw_p16 : lw_okq (⟨"SightRows", "roadBeyond", "(IZ)I"⟩, 13) := ⟨⟨by decide +kernel, by decide +kernel⟩, List.mem_of_getElem? (i := 6) (by decide +kernel), List.mem_of_getElem? (i := 246) (by decide +kernel), List.mem_of_getElem? (i := 247) (by decide +kernel)⟩
theorem lw_p17 : lw_okq (⟨"SightRows", "widened", "(IIIII)I"⟩, 13) := ⟨⟨by decide +kernel, by decide +kernel⟩, List.mem_of_getElem? (i := 6) (by decide +kernel), List.mem_of_getElem? (i := 254) (by decide +kernel), List.mem_of_getElem? (i := 255) (by decide +kernel)⟩
theorem lw_p18 : lw_okq (⟨"SightRows", "freeViews", "()I"⟩, 13) := ⟨⟨by decide +kernel, by decide +kernel⟩, List.mem_of_getElem? (i := 6) (by decide +kernel), List.mem_of_getElem? (i := 281) (by decide +kernel), List.mem_of_getElem? (i := 282) (by decide +kernel)⟩
theorem lw_p19 : lw_okq (⟨"SightRows", "blindStations", "(Z)I"⟩, 13) := ⟨⟨by decide +kernel, by decide +kernel⟩, List.mem_of_getElem? (i := 6) (by decide +kernel), List.mem_of_getElem? (i := 285) (by decide +kernel), List.mem_of_getElem? (i := 286) (by decide +kernel)⟩
theorem lw_p20 : lw_okq (⟨"SightRowsModel", "isStation", "(I)Z"⟩, 17) := ⟨⟨by decide +kernel, by decide +kernel⟩, List.mem_of_getElem? (i := 289) (by decide +kernel), List.mem_of_getElem? (i := 375) (by decide +kernel), List.mem_of_getElem? (i := 376) (by decide +kernel)⟩
theorem lw_p21 : lw_okq (⟨"SightRowsModel", "interrupter", "(II)I"⟩, 17) := ⟨⟨by decide +kernel, by decide +kernel⟩, List.mem_of_getElem? (i := 289) (by decide +kernel), List.mem_of_getElem? (i := 399) (by decide +kernel), List.mem_of_getElem? (i := 400) (by decide +kernel)⟩
theorem lw_p22 : lw_okq (⟨"SightRowsModel", "isAbove", "(III)Z"⟩, 17) := ⟨⟨by decide +kernel, by decide +kernel⟩, List.mem_of_getElem? (i := 289) (by decide +kernel), List.mem_of_getElem? (i := 403) (by decide +kernel), List.mem_of_getElem? (i := 404) (by decide +kernel)⟩
theorem lw_p23 : lw_okq (⟨"SightRowsModel", "isBanked", "(III)Z"⟩, 17) := ⟨⟨by decide +kernel, by decide +kernel⟩, List.mem_of_getElem? (i := 289) (by decide +kernel), List.mem_of_getElem? (i := 407) (by decide +kernel), List.mem_of_getElem? (i := 408) (by decide +kernel)⟩
theorem lw_p24 : lw_okq (⟨"SightRowsModel", "beside", "(III)J"⟩, 17) := ⟨⟨by decide +kernel, by decide +kernel⟩, List.mem_of_getElem? (i := 289) (by decide +kernel), List.mem_of_getElem? (i := 411) (by decide +kernel), List.mem_of_getElem? (i := 412) (by decide +kernel)⟩
theorem lw_p25 : lw_okq (⟨"SightRowsModel", "lengthSquare", "(II)J"⟩, 17) := ⟨⟨by decide +kernel, by decide +kernel⟩, List.mem_of_getElem? (i := 289) (by decide +kernel), List.mem_of_getElem? (i := 415) (by decide +kernel), List.mem_of_getElem? (i := 416) (by decide +kernel)⟩
theorem lw_p26 : lw_okq (⟨"SightRowsModel", "isBoxed", "(IIIIIII)Z"⟩, 17) := ⟨⟨by decide +kernel, by decide +kernel⟩, List.mem_of_getElem? (i := 289) (by decide +kernel), List.mem_of_getElem? (i := 419) (by decide +kernel), List.mem_of_getElem? (i := 420) (by decide +kernel)⟩
theorem lw_p27 : lw_okq (⟨"SightRowsModel", "cut", "(IIII)Z"⟩, 17) := ⟨⟨by decide +kernel, by decide +kernel⟩, List.mem_of_getElem? (i := 289) (by decide +kernel), List.mem_of_getElem? (i := 423) (by decide +kernel), List.mem_of_getElem? (i := 424) (by decide +kernel)⟩
theorem lw_p28 : lw_okq (⟨"SightRowsModel", "sightOf", "(IZ)I"⟩, 17) := ⟨⟨by decide +kernel, by decide +kernel⟩, List.mem_of_getElem? (i := 289) (by decide +kernel), List.mem_of_getElem? (i := 434) (by decide +kernel), List.mem_of_getElem? (i := 435) (by decide +kernel)⟩
theorem lw_p29 : lw_okq (⟨"SightRowsModel", "needOf", "(IZI)I"⟩, 17) := ⟨⟨by decide +kernel, by decide +kernel⟩, List.mem_of_getElem? (i := 289) (by decide +kernel), List.mem_of_getElem? (i := 442) (by decide +kernel), List.mem_of_getElem? (i := 443) (by decide +kernel)⟩
theorem lw_p30 : lw_okq (⟨"SightRowsModel", "isBlind", "(IZ)Z"⟩, 17) := ⟨⟨by decide +kernel, by decide +kernel⟩, List.mem_of_getElem? (i := 289) (by decide +kernel), List.mem_of_getElem? (i := 454) (by decide +kernel), List.mem_of_getElem? (i := 455) (by decide +kernel)⟩
theorem lw_p31 : lw_okq (⟨"SightRowsModel", "remaining", "(IZ)I"⟩, 17) := ⟨⟨by decide +kernel, by decide +kernel⟩, List.mem_of_getElem? (i := 289) (by decide +kernel), List.mem_of_getElem? (i := 458) (by decide +kernel), List.mem_of_getElem? (i := 459) (by decide +kernel)⟩
def lw_privs_2 : List (MethodName × Nat) := [(⟨"SightRows", "roadBeyond", "(IZ)I"⟩, 13), (⟨"SightRows", "widened", "(IIIII)I"⟩, 13), (⟨"SightRows", "freeViews", "()I"⟩, 13), (⟨"SightRows", "blindStations", "(Z)I"⟩, 13), (⟨"SightRowsModel", "isStation", "(I)Z"⟩, 17), (⟨"SightRowsModel", "interrupter", "(II)I"⟩, 17), (⟨"SightRowsModel", "isAbove", "(III)Z"⟩, 17), (⟨"SightRowsModel", "isBanked", "(III)Z"⟩, 17), (⟨"SightRowsModel", "beside", "(III)J"⟩, 17), (⟨"SightRowsModel", "lengthSquare", "(II)J"⟩, 17), (⟨"SightRowsModel", "isBoxed", "(IIIIIII)Z"⟩, 17), (⟨"SightRowsModel", "cut", "(IIII)Z"⟩, 17), (⟨"SightRowsModel", "sightOf", "(IZ)I"⟩, 17), (⟨"SightRowsModel", "needOf", "(IZI)I"⟩, 17), (⟨"SightRowsModel", "isBlind", "(IZ)Z"⟩, 17), (⟨"SightRowsModel", "remaining", "(IZ)I"⟩, 17)]
theorem lw_r2 : ∀ q ∈ lw_privs_2, lw_okq q := List.forall_mem_cons.mpr ⟨lw_p16, List.forall_mem_cons.mpr ⟨lw_p17, List.forall_mem_cons.mpr ⟨lw_p18, List.forall_mem_cons.mpr ⟨lw_p19, List.forall_mem_cons.mpr ⟨lw_p20, List.forall_mem_cons.mpr ⟨lw_p21, List.forall_mem_cons.mpr ⟨lw_p22, List.forall_mem_cons.mpr ⟨lw_p23, List.forall_mem_cons.mpr ⟨lw_p24, List.forall_mem_cons.mpr ⟨lw_p25, List.forall_mem_cons.mpr ⟨lw_p26, List.forall_mem_cons.mpr ⟨lw_p27, List.forall_mem_cons.mpr ⟨lw_p28, List.forall_mem_cons.mpr ⟨lw_p29, List.forall_mem_cons.mpr ⟨lw_p30, List.forall_mem_cons.mpr ⟨lw_p31, fun _ h => absurd h List.not_mem_nil⟩⟩⟩⟩⟩⟩⟩⟩⟩⟩⟩⟩⟩⟩⟩⟩
def lw_privs : List (MethodName × Nat) := lw_privs_1 ++ (lw_privs_2)
def lw_tbl : List Cond := k2_sels lw_privs ++ tables_1
theorem lw_privs_ok : ∀ q ∈ lw_privs, lw_okq q := by
  show ∀ q ∈ lw_privs_1 ++ (lw_privs_2), lw_okq q
  exact List.forall_mem_append.mpr ⟨lw_r1, lw_r2⟩
end
section
/-! ints and longs by whole numbers: zi a, zl a; what a walk's rows say of them -/
def zi (a : Int) : Int32 := Int32.ofInt a
def zl (a : Int) : Int64 := Int64.ofInt a
def zI (a : Int) : Prop := -2147483648 ≤ a ∧ a < 2147483648
def zL (a : Int) : Prop := -9223372036854775808 ≤ a ∧ a < 9223372036854775808
def zB (lo hi a : Int) : Prop := lo ≤ a ∧ a ≤ hi
theorem zi_t {a : Int} (h : zI a) : (zi a).toInt = a := Int32.toInt_ofInt_of_le (by have := h.1; omega) (by have := h.2; omega)
theorem zl_t {a : Int} (h : zL a) : (zl a).toInt = a := Int64.toInt_ofInt_of_le (by have := h.1; omega) (by have := h.2; omega)
theorem zi_of (x : Int32) : zi x.toInt = x := Int32.ofInt_toInt x
theorem zl_of (x : Int64) : zl x.toInt = x := Int64.ofInt_toInt x
theorem zI_of (x : Int32) : zI x.toInt := ⟨by have := Int32.le_toInt x; omega, by have := Int32.toInt_lt x; omega⟩
theorem zi_add (a b : Int) : zi a + zi b = zi (a + b) := (Int32.ofInt_add a b).symm
theorem zi_sub (a b : Int) : zi a - zi b = zi (a - b) := (Int32.ofInt_sub a b).symm
theorem zi_mul (a b : Int) : zi a * zi b = zi (a * b) := (Int32.ofInt_mul a b).symm
theorem zi_neg (a : Int) : -zi a = zi (-a) := Int32.neg_ofInt
theorem zl_add (a b : Int) : zl a + zl b = zl (a + b) := (Int64.ofInt_add a b).symm
theorem zl_sub (a b : Int) : zl a - zl b = zl (a - b) := (Int64.ofInt_sub a b).symm
theorem zl_mul (a b : Int) : zl a * zl b = zl (a * b) := (Int64.ofInt_mul a b).symm
theorem zl_neg (a : Int) : -zl a = zl (-a) := Int64.neg_ofInt
theorem zi_lt {a b : Int} (ha : zI a) (hb : zI b) : zi a < zi b ↔ a < b := by rw [Int32.lt_iff_toInt_lt, zi_t ha, zi_t hb]
theorem zi_le {a b : Int} (ha : zI a) (hb : zI b) : zi a ≤ zi b ↔ a ≤ b := by rw [Int32.le_iff_toInt_le, zi_t ha, zi_t hb]
theorem zi_eq {a b : Int} (ha : zI a) (hb : zI b) : zi a = zi b ↔ a = b := ⟨fun h => by rw [← zi_t ha, ← zi_t hb, h], fun h => by rw [h]⟩
theorem zl_lt {a b : Int} (ha : zL a) (hb : zL b) : zl a < zl b ↔ a < b := by rw [Int64.lt_iff_toInt_lt, zl_t ha, zl_t hb]
theorem zl_le {a b : Int} (ha : zL a) (hb : zL b) : zl a ≤ zl b ↔ a ≤ b := by rw [Int64.le_iff_toInt_le, zl_t ha, zl_t hb]
theorem zl_eq {a b : Int} (ha : zL a) (hb : zL b) : zl a = zl b ↔ a = b := ⟨fun h => by rw [← zl_t ha, ← zl_t hb, h], fun h => by rw [h]⟩
theorem zi_0 : zi 0 = 0 := rfl
theorem zl_0 : zl 0 = 0 := rfl
theorem zI_0 : zI 0 := ⟨by decide, by decide⟩
theorem zi_l {a : Int} (h : zI a) : (zi a).toInt64 = zl a := Int64.toInt_inj.mp (by rw [Int32.toInt_toInt64, zi_t h, zl_t ⟨by have := h.1; omega, by have := h.2; omega⟩])
theorem zl_i (a : Int) : (zl a).toInt32 = zi a := Int64.toInt32_ofInt
-- intervals
theorem zB.I {lo hi a : Int} (h : zB lo hi a) (h1 : -2147483648 ≤ lo) (h2 : hi < 2147483648) : zI a := ⟨Int.le_trans h1 h.1, Int.lt_of_le_of_lt h.2 h2⟩
theorem zB.L {lo hi a : Int} (h : zB lo hi a) (h1 : -9223372036854775808 ≤ lo) (h2 : hi < 9223372036854775808) : zL a := ⟨Int.le_trans h1 h.1, Int.lt_of_le_of_lt h.2 h2⟩
theorem zB.w {lo hi lo' hi' a : Int} (h : zB lo hi a) (h1 : lo' ≤ lo) (h2 : hi ≤ hi') : zB lo' hi' a := ⟨Int.le_trans h1 h.1, Int.le_trans h.2 h2⟩
theorem zb_c (a : Int) : zB a a a := ⟨Int.le_refl a, Int.le_refl a⟩
theorem zb_add {a b c d x y : Int} (h : zB a b x) (g : zB c d y) : zB (a + c) (b + d) (x + y) := ⟨Int.add_le_add h.1 g.1, Int.add_le_add h.2 g.2⟩
theorem zb_sub {a b c d x y : Int} (h : zB a b x) (g : zB c d y) : zB (a - d) (b - c) (x - y) := ⟨Int.sub_le_sub h.1 g.2, Int.sub_le_sub h.2 g.1⟩
theorem zb_neg {a b x : Int} (h : zB a b x) : zB (-b) (-a) (-x) := ⟨Int.neg_le_neg h.2, Int.neg_le_neg h.1⟩
theorem zb_abs {A x : Int} (h : zB (-A) A x) : x.natAbs ≤ A.toNat := by
  obtain ⟨h1, h2⟩ := h
  omega
theorem zb_mul {A B x y : Int} (h : zB (-A) A x) (g : zB (-B) B y) : zB (-(A * B)) (A * B) (x * y) := by
  have hA : 0 ≤ A := by have := h.1; have := h.2; omega
  have hB : 0 ≤ B := by have := g.1; have := g.2; omega
  have h1 := zb_abs h
  have h2 := zb_abs g
  have h3 : (x * y).natAbs ≤ A.toNat * B.toNat := by rw [Int.natAbs_mul]; exact Nat.mul_le_mul h1 h2
  have h4 : ((A.toNat * B.toNat : Nat) : Int) = A * B := by rw [Int.natCast_mul, Int.toNat_of_nonneg hA, Int.toNat_of_nonneg hB]
  have h5 : ((x * y).natAbs : Int) ≤ A * B := by rw [← h4]; exact Int.ofNat_le.mpr h3
  constructor <;> omega
theorem zb_mulp {a b c d x y : Int} (h : zB a b x) (g : zB c d y) (ha : 0 ≤ a) (hc : 0 ≤ c) : zB 0 (b * d) (x * y) := by
  obtain ⟨h1, h2⟩ := h
  obtain ⟨g1, g2⟩ := g
  have hx : 0 ≤ x := Int.le_trans ha h1
  have hy : 0 ≤ y := Int.le_trans hc g1
  exact ⟨Int.mul_nonneg hx hy, Int.mul_le_mul h2 g2 hy (Int.le_trans hx h2)⟩
theorem zb_sq {A x : Int} (h : zB (-A) A x) : zB 0 (A * A) (x * x) := by
  refine ⟨?_, (zb_mul h h).2⟩
  rcases Int.le_total 0 x with q | q
  · exact Int.mul_nonneg q q
  · exact Int.mul_nonneg_of_nonpos_of_nonpos q q
-- arrays of ints
def zA (g : Int → Int) : Nat → Int32 := fun j => zi (g (j : Int))
def zu (g : Int → Int) (i v : Int) : Int → Int := fun j => if j = i then v else g j
theorem zu_s (g : Int → Int) (i v : Int) : zu g i v i = v := if_pos rfl
theorem zu_n {g : Int → Int} {i v j : Int} (h : ¬ j = i) : zu g i v j = g j := if_neg h
theorem zp_in {i : Int} {n : Nat} (h0 : 0 ≤ i) (h1 : i < (n : Int)) (hn : (n : Int) ≤ 2147483647) : vp_in (zi i) n := by
  rw [vp_in_iff, zi_t ⟨by omega, by omega⟩]
  exact ⟨h0, h1⟩
theorem zp_cl {i : Int} (h0 : 0 ≤ i) (h1 : i < 2147483648) : (zi i).toNatClampNeg = i.toNat := by
  rw [← Int32.toNat_toInt, zi_t ⟨by omega, h1⟩]
theorem zA_at (g : Int → Int) {i : Int} (h0 : 0 ≤ i) (h1 : i < 2147483648) : zA g (zi i).toNatClampNeg = zi (g i) := by
  rw [zp_cl h0 h1]
  show zi (g ((i.toNat : Nat) : Int)) = _
  rw [Int.toNat_of_nonneg h0]
theorem zA_up (g : Int → Int) {i v : Int} (h0 : 0 ≤ i) (h1 : i < 2147483648) : upd (zA g) (zi i).toNatClampNeg (zi v) = zA (zu g i v) := by
  rw [zp_cl h0 h1]
  funext j
  show (if j = i.toNat then zi v else zi (g (j : Int))) = zi (if (j : Int) = i then v else g (j : Int))
  by_cases h : j = i.toNat
  · have : (j : Int) = i := by omega
    rw [if_pos h, if_pos this]
  · have : ¬ (j : Int) = i := by omega
    rw [if_neg h, if_neg this]
theorem zA_0 : zA (fun _ => 0) = fun _ => 0 := rfl
section ZR
variable {p : Program} {l : Launch} {e : Env} {R : Room} {s : State} {m : MethodId} {args : Array Value} {below : List Frame} {meth : Method} {c : Code} {H : Heap} {locs : List Loc} {cells slots : Nat} {Q : State → Prop}
variable {cc : ByteArray} {pc : Nat} {ls : Array Slot} {rest : List Value}
theorem zr_iadd (hx : p.tables.exec = Jvm.exec) (hb : c.code = cc) {a b : Int} (hd : decode cc pc = .ok (.iadd, 1)) (k : W p l e R s m args below meth c H locs cells slots Q (F0 m (pc + 1) ls (.int (zi (a + b)) :: rest))) : W p l e R s m args below meth c H locs cells slots Q (F0 m pc ls (.int (zi b) :: .int (zi a) :: rest)) := lv_iadd hx hb hd (by rw [zi_add]; exact k)
theorem zr_isub (hx : p.tables.exec = Jvm.exec) (hb : c.code = cc) {a b : Int} (hd : decode cc pc = .ok (.isub, 1)) (k : W p l e R s m args below meth c H locs cells slots Q (F0 m (pc + 1) ls (.int (zi (a - b)) :: rest))) : W p l e R s m args below meth c H locs cells slots Q (F0 m pc ls (.int (zi b) :: .int (zi a) :: rest)) := lv_isub hx hb hd (by rw [zi_sub]; exact k)
theorem zr_imul (hx : p.tables.exec = Jvm.exec) (hb : c.code = cc) {a b : Int} (hd : decode cc pc = .ok (.imul, 1)) (k : W p l e R s m args below meth c H locs cells slots Q (F0 m (pc + 1) ls (.int (zi (a * b)) :: rest))) : W p l e R s m args below meth c H locs cells slots Q (F0 m pc ls (.int (zi b) :: .int (zi a) :: rest)) := lv_imul hx hb hd (by rw [zi_mul]; exact k)
theorem zr_ineg (hx : p.tables.exec = Jvm.exec) (hb : c.code = cc) {a : Int} (hd : decode cc pc = .ok (.ineg, 1)) (k : W p l e R s m args below meth c H locs cells slots Q (F0 m (pc + 1) ls (.int (zi (-a)) :: rest))) : W p l e R s m args below meth c H locs cells slots Q (F0 m pc ls (.int (zi a) :: rest)) := lv_ineg hx hb hd (by rw [zi_neg]; exact k)
theorem zr_ladd (hx : p.tables.exec = Jvm.exec) (hb : c.code = cc) {a b : Int} (hd : decode cc pc = .ok (.ladd, 1)) (k : W p l e R s m args below meth c H locs cells slots Q (F0 m (pc + 1) ls (.long (zl (a + b)) :: rest))) : W p l e R s m args below meth c H locs cells slots Q (F0 m pc ls (.long (zl b) :: .long (zl a) :: rest)) := lv_ladd hx hb hd (by rw [zl_add]; exact k)
theorem zr_lsub (hx : p.tables.exec = Jvm.exec) (hb : c.code = cc) {a b : Int} (hd : decode cc pc = .ok (.lsub, 1)) (k : W p l e R s m args below meth c H locs cells slots Q (F0 m (pc + 1) ls (.long (zl (a - b)) :: rest))) : W p l e R s m args below meth c H locs cells slots Q (F0 m pc ls (.long (zl b) :: .long (zl a) :: rest)) := lv_lsub hx hb hd (by rw [zl_sub]; exact k)
theorem zr_lmul (hx : p.tables.exec = Jvm.exec) (hb : c.code = cc) {a b : Int} (hd : decode cc pc = .ok (.lmul, 1)) (k : W p l e R s m args below meth c H locs cells slots Q (F0 m (pc + 1) ls (.long (zl (a * b)) :: rest))) : W p l e R s m args below meth c H locs cells slots Q (F0 m pc ls (.long (zl b) :: .long (zl a) :: rest)) := lv_lmul hx hb hd (by rw [zl_mul]; exact k)
theorem zr_lneg (hx : p.tables.exec = Jvm.exec) (hb : c.code = cc) {a : Int} (hd : decode cc pc = .ok (.lneg, 1)) (k : W p l e R s m args below meth c H locs cells slots Q (F0 m (pc + 1) ls (.long (zl (-a)) :: rest))) : W p l e R s m args below meth c H locs cells slots Q (F0 m pc ls (.long (zl a) :: rest)) := lv_lneg hx hb hd (by rw [zl_neg]; exact k)
theorem zr_i2l (hx : p.tables.exec = Jvm.exec) (hb : c.code = cc) {a : Int} (h : zI a) (hd : decode cc pc = .ok (.i2l, 1)) (k : W p l e R s m args below meth c H locs cells slots Q (F0 m (pc + 1) ls (.long (zl a) :: rest))) : W p l e R s m args below meth c H locs cells slots Q (F0 m pc ls (.int (zi a) :: rest)) := lv_i2l hx hb hd (zi_l h) k
theorem zr_l2i (hx : p.tables.exec = Jvm.exec) (hb : c.code = cc) {a : Int} (hd : decode cc pc = .ok (.l2i, 1)) (k : W p l e R s m args below meth c H locs cells slots Q (F0 m (pc + 1) ls (.int (zi a) :: rest))) : W p l e R s m args below meth c H locs cells slots Q (F0 m pc ls (.long (zl a) :: rest)) := lv_l2i hx hb hd (zl_i a) k
theorem zi_div {a b : Int} (ha : zI a) (hb : zI b) (h0 : 0 < b) : zi a / zi b = zi (a.tdiv b) := by
  have hne : zi b ≠ -1 := fun h => by
    have h2 := zi_t hb
    rw [h] at h2
    have : (-1 : Int32).toInt = -1 := by decide
    omega
  have h1 := Int32.toInt_div_of_ne_right (zi a) (zi b) hne
  rw [zi_t ha, zi_t hb] at h1
  rw [← h1, zi_of]
theorem zl_div {a b : Int} (ha : zL a) (hb : zL b) (h0 : 0 < b) : zl a / zl b = zl (a.tdiv b) := by
  have hne : zl b ≠ -1 := fun h => by
    have h2 := zl_t hb
    rw [h] at h2
    have : (-1 : Int64).toInt = -1 := by decide
    omega
  have h1 := Int64.toInt_div_of_ne_right (zl a) (zl b) hne
  rw [zl_t ha, zl_t hb] at h1
  rw [← h1, zl_of]
theorem zi_rem {a b : Int} (ha : zI a) (hb : zI b) (h0 : 0 < b) : zi a - zi a / zi b * zi b = zi (a.tmod b) := by
  rw [zi_div ha hb h0, zi_mul, zi_sub]
  have := Int.tdiv_mul_add_tmod a b
  congr 1
  omega
theorem zl_rem {a b : Int} (ha : zL a) (hb : zL b) (h0 : 0 < b) : zl a - zl a / zl b * zl b = zl (a.tmod b) := by
  rw [zl_div ha hb h0, zl_mul, zl_sub]
  have := Int.tdiv_mul_add_tmod a b
  congr 1
  omega
theorem zi_ne0 {b : Int} (hb : zI b) (h0 : 0 < b) : ¬ zi b = 0 := fun h => by
  have h2 := zi_t hb
  rw [h, Int32.toInt_zero] at h2
  omega
theorem zl_ne0 {b : Int} (hb : zL b) (h0 : 0 < b) : ¬ zl b = 0 := fun h => by
  have h2 := zl_t hb
  rw [h, Int64.toInt_zero] at h2
  omega
theorem zb_tdiv {A a b : Int} (h : zB (-A) A a) : zB (-A) A (a.tdiv b) := by
  have h1 := zb_abs h
  have h2 := Int.natAbs_tdiv_le_natAbs a b
  have := h.1
  have := h.2
  constructor <;> omega
theorem zr_idiv (hx : p.tables.exec = Jvm.exec) (hb : c.code = cc) {a b : Int} (ha : zI a) (hb' : zI b) (h0 : 0 < b) (hd : decode cc pc = .ok (.idiv, 1)) (k : W p l e R s m args below meth c H locs cells slots Q (F0 m (pc + 1) ls (.int (zi (a.tdiv b)) :: rest))) : W p l e R s m args below meth c H locs cells slots Q (F0 m pc ls (.int (zi b) :: .int (zi a) :: rest)) := lv_idiv hx hb hd (zi_ne0 hb' h0) (by rw [zi_div ha hb' h0]; exact k)
theorem zr_irem (hx : p.tables.exec = Jvm.exec) (hb : c.code = cc) {a b : Int} (ha : zI a) (hb' : zI b) (h0 : 0 < b) (hd : decode cc pc = .ok (.irem, 1)) (k : W p l e R s m args below meth c H locs cells slots Q (F0 m (pc + 1) ls (.int (zi (a.tmod b)) :: rest))) : W p l e R s m args below meth c H locs cells slots Q (F0 m pc ls (.int (zi b) :: .int (zi a) :: rest)) := lv_irem hx hb hd (zi_ne0 hb' h0) (by rw [zi_rem ha hb' h0]; exact k)
theorem zr_ldiv (hx : p.tables.exec = Jvm.exec) (hb : c.code = cc) {a b : Int} (ha : zL a) (hb' : zL b) (h0 : 0 < b) (hd : decode cc pc = .ok (.ldiv, 1)) (k : W p l e R s m args below meth c H locs cells slots Q (F0 m (pc + 1) ls (.long (zl (a.tdiv b)) :: rest))) : W p l e R s m args below meth c H locs cells slots Q (F0 m pc ls (.long (zl b) :: .long (zl a) :: rest)) := lv_ldiv hx hb hd (zl_ne0 hb' h0) (by rw [zl_div ha hb' h0]; exact k)
theorem zr_lrem (hx : p.tables.exec = Jvm.exec) (hb : c.code = cc) {a b : Int} (ha : zL a) (hb' : zL b) (h0 : 0 < b) (hd : decode cc pc = .ok (.lrem, 1)) (k : W p l e R s m args below meth c H locs cells slots Q (F0 m (pc + 1) ls (.long (zl (a.tmod b)) :: rest))) : W p l e R s m args below meth c H locs cells slots Q (F0 m pc ls (.long (zl b) :: .long (zl a) :: rest)) := lv_lrem hx hb hd (zl_ne0 hb' h0) (by rw [zl_rem ha hb' h0]; exact k)
theorem zr_icmp_lt (hx : p.tables.exec = Jvm.exec) (hb : c.code = cc) {a b off : Int} {tgt : Nat} (ha : zI a) (hb' : zI b) (hd : decode cc pc = .ok (.if_icmp .lt off, 3)) (ht : (pc : Int) + off = (tgt : Int)) (kt : a < b → W p l e R s m args below meth c H locs cells slots Q (F0 m tgt ls rest)) (kf : ¬ a < b → W p l e R s m args below meth c H locs cells slots Q (F0 m (pc + 3) ls rest)) : W p l e R s m args below meth c H locs cells slots Q (F0 m pc ls (.int (zi b) :: .int (zi a) :: rest)) := lv_icmp_lt hx hb hd ht (fun h => kt ((zi_lt ha hb').mp h)) (fun h => kf (fun q => h ((zi_lt ha hb').mpr q)))
theorem zr_if_lt (hx : p.tables.exec = Jvm.exec) (hb : c.code = cc) {a off : Int} {tgt : Nat} (ha : zI a) (hd : decode cc pc = .ok (.ifCond .lt off, 3)) (ht : (pc : Int) + off = (tgt : Int)) (kt : a < 0 → W p l e R s m args below meth c H locs cells slots Q (F0 m tgt ls rest)) (kf : ¬ a < 0 → W p l e R s m args below meth c H locs cells slots Q (F0 m (pc + 3) ls rest)) : W p l e R s m args below meth c H locs cells slots Q (F0 m pc ls (.int (zi a) :: rest)) := by
  have hb' : zI 0 := zI_0
  exact lv_if_lt hx hb hd ht (fun h => kt ((zi_lt ha hb').mp h)) (fun h => kf (fun q => h ((zi_lt ha hb').mpr q)))
theorem zr_icmp_ge (hx : p.tables.exec = Jvm.exec) (hb : c.code = cc) {a b off : Int} {tgt : Nat} (ha : zI a) (hb' : zI b) (hd : decode cc pc = .ok (.if_icmp .ge off, 3)) (ht : (pc : Int) + off = (tgt : Int)) (kt : ¬ a < b → W p l e R s m args below meth c H locs cells slots Q (F0 m tgt ls rest)) (kf : a < b → W p l e R s m args below meth c H locs cells slots Q (F0 m (pc + 3) ls rest)) : W p l e R s m args below meth c H locs cells slots Q (F0 m pc ls (.int (zi b) :: .int (zi a) :: rest)) := lv_icmp_ge hx hb hd ht (fun h => kt (Int.not_lt.mpr ((zi_le hb' ha).mp h))) (fun h => kf (Int.not_le.mp (fun q => h ((zi_le hb' ha).mpr q))))
theorem zr_if_ge (hx : p.tables.exec = Jvm.exec) (hb : c.code = cc) {a off : Int} {tgt : Nat} (ha : zI a) (hd : decode cc pc = .ok (.ifCond .ge off, 3)) (ht : (pc : Int) + off = (tgt : Int)) (kt : ¬ a < 0 → W p l e R s m args below meth c H locs cells slots Q (F0 m tgt ls rest)) (kf : a < 0 → W p l e R s m args below meth c H locs cells slots Q (F0 m (pc + 3) ls rest)) : W p l e R s m args below meth c H locs cells slots Q (F0 m pc ls (.int (zi a) :: rest)) := by
  have hb' : zI 0 := zI_0
  exact lv_if_ge hx hb hd ht (fun h => kt (Int.not_lt.mpr ((zi_le hb' ha).mp h))) (fun h => kf (Int.not_le.mp (fun q => h ((zi_le hb' ha).mpr q))))
theorem zr_icmp_gt (hx : p.tables.exec = Jvm.exec) (hb : c.code = cc) {a b off : Int} {tgt : Nat} (ha : zI a) (hb' : zI b) (hd : decode cc pc = .ok (.if_icmp .gt off, 3)) (ht : (pc : Int) + off = (tgt : Int)) (kt : b < a → W p l e R s m args below meth c H locs cells slots Q (F0 m tgt ls rest)) (kf : ¬ b < a → W p l e R s m args below meth c H locs cells slots Q (F0 m (pc + 3) ls rest)) : W p l e R s m args below meth c H locs cells slots Q (F0 m pc ls (.int (zi b) :: .int (zi a) :: rest)) := lv_icmp_gt hx hb hd ht (fun h => kt ((zi_lt hb' ha).mp h)) (fun h => kf (fun q => h ((zi_lt hb' ha).mpr q)))
theorem zr_if_gt (hx : p.tables.exec = Jvm.exec) (hb : c.code = cc) {a off : Int} {tgt : Nat} (ha : zI a) (hd : decode cc pc = .ok (.ifCond .gt off, 3)) (ht : (pc : Int) + off = (tgt : Int)) (kt : 0 < a → W p l e R s m args below meth c H locs cells slots Q (F0 m tgt ls rest)) (kf : ¬ 0 < a → W p l e R s m args below meth c H locs cells slots Q (F0 m (pc + 3) ls rest)) : W p l e R s m args below meth c H locs cells slots Q (F0 m pc ls (.int (zi a) :: rest)) := by
  have hb' : zI 0 := zI_0
  exact lv_if_gt hx hb hd ht (fun h => kt ((zi_lt hb' ha).mp h)) (fun h => kf (fun q => h ((zi_lt hb' ha).mpr q)))
theorem zr_icmp_le (hx : p.tables.exec = Jvm.exec) (hb : c.code = cc) {a b off : Int} {tgt : Nat} (ha : zI a) (hb' : zI b) (hd : decode cc pc = .ok (.if_icmp .le off, 3)) (ht : (pc : Int) + off = (tgt : Int)) (kt : ¬ b < a → W p l e R s m args below meth c H locs cells slots Q (F0 m tgt ls rest)) (kf : b < a → W p l e R s m args below meth c H locs cells slots Q (F0 m (pc + 3) ls rest)) : W p l e R s m args below meth c H locs cells slots Q (F0 m pc ls (.int (zi b) :: .int (zi a) :: rest)) := lv_icmp_le hx hb hd ht (fun h => kt (Int.not_lt.mpr ((zi_le ha hb').mp h))) (fun h => kf (Int.not_le.mp (fun q => h ((zi_le ha hb').mpr q))))
theorem zr_if_le (hx : p.tables.exec = Jvm.exec) (hb : c.code = cc) {a off : Int} {tgt : Nat} (ha : zI a) (hd : decode cc pc = .ok (.ifCond .le off, 3)) (ht : (pc : Int) + off = (tgt : Int)) (kt : ¬ 0 < a → W p l e R s m args below meth c H locs cells slots Q (F0 m tgt ls rest)) (kf : 0 < a → W p l e R s m args below meth c H locs cells slots Q (F0 m (pc + 3) ls rest)) : W p l e R s m args below meth c H locs cells slots Q (F0 m pc ls (.int (zi a) :: rest)) := by
  have hb' : zI 0 := zI_0
  exact lv_if_le hx hb hd ht (fun h => kt (Int.not_lt.mpr ((zi_le ha hb').mp h))) (fun h => kf (Int.not_le.mp (fun q => h ((zi_le ha hb').mpr q))))
theorem zr_icmp_eq (hx : p.tables.exec = Jvm.exec) (hb : c.code = cc) {a b off : Int} {tgt : Nat} (ha : zI a) (hb' : zI b) (hd : decode cc pc = .ok (.if_icmp .eq off, 3)) (ht : (pc : Int) + off = (tgt : Int)) (kt : a = b → W p l e R s m args below meth c H locs cells slots Q (F0 m tgt ls rest)) (kf : ¬ a = b → W p l e R s m args below meth c H locs cells slots Q (F0 m (pc + 3) ls rest)) : W p l e R s m args below meth c H locs cells slots Q (F0 m pc ls (.int (zi b) :: .int (zi a) :: rest)) := lv_icmp_eq hx hb hd ht (fun h => kt ((zi_eq ha hb').mp h)) (fun h => kf (fun q => h ((zi_eq ha hb').mpr q)))
theorem zr_if_eq (hx : p.tables.exec = Jvm.exec) (hb : c.code = cc) {a off : Int} {tgt : Nat} (ha : zI a) (hd : decode cc pc = .ok (.ifCond .eq off, 3)) (ht : (pc : Int) + off = (tgt : Int)) (kt : a = 0 → W p l e R s m args below meth c H locs cells slots Q (F0 m tgt ls rest)) (kf : ¬ a = 0 → W p l e R s m args below meth c H locs cells slots Q (F0 m (pc + 3) ls rest)) : W p l e R s m args below meth c H locs cells slots Q (F0 m pc ls (.int (zi a) :: rest)) := by
  have hb' : zI 0 := zI_0
  exact lv_if_eq hx hb hd ht (fun h => kt ((zi_eq ha hb').mp h)) (fun h => kf (fun q => h ((zi_eq ha hb').mpr q)))
theorem zr_icmp_ne (hx : p.tables.exec = Jvm.exec) (hb : c.code = cc) {a b off : Int} {tgt : Nat} (ha : zI a) (hb' : zI b) (hd : decode cc pc = .ok (.if_icmp .ne off, 3)) (ht : (pc : Int) + off = (tgt : Int)) (kt : ¬ a = b → W p l e R s m args below meth c H locs cells slots Q (F0 m tgt ls rest)) (kf : a = b → W p l e R s m args below meth c H locs cells slots Q (F0 m (pc + 3) ls rest)) : W p l e R s m args below meth c H locs cells slots Q (F0 m pc ls (.int (zi b) :: .int (zi a) :: rest)) := lv_icmp_ne hx hb hd ht (fun h => kt (fun q => h ((zi_eq ha hb').mpr q))) (fun h => kf ((zi_eq ha hb').mp h))
theorem zr_if_ne (hx : p.tables.exec = Jvm.exec) (hb : c.code = cc) {a off : Int} {tgt : Nat} (ha : zI a) (hd : decode cc pc = .ok (.ifCond .ne off, 3)) (ht : (pc : Int) + off = (tgt : Int)) (kt : ¬ a = 0 → W p l e R s m args below meth c H locs cells slots Q (F0 m tgt ls rest)) (kf : a = 0 → W p l e R s m args below meth c H locs cells slots Q (F0 m (pc + 3) ls rest)) : W p l e R s m args below meth c H locs cells slots Q (F0 m pc ls (.int (zi a) :: rest)) := by
  have hb' : zI 0 := zI_0
  exact lv_if_ne hx hb hd ht (fun h => kt (fun q => h ((zi_eq ha hb').mpr q))) (fun h => kf ((zi_eq ha hb').mp h))
theorem zl_cmp {a b : Int} (ha : zL a) (hb : zL b) : (lg_cmp (zl a) (zl b) < 0 ↔ a < b) ∧ (0 < lg_cmp (zl a) (zl b) ↔ b < a) ∧ (lg_cmp (zl a) (zl b) = 0 ↔ a = b) ∧ (0 ≤ lg_cmp (zl a) (zl b) ↔ ¬ a < b) ∧ (lg_cmp (zl a) (zl b) ≤ 0 ↔ ¬ b < a) := by
  have h1 := zl_lt hb ha
  have h2 := zl_eq ha hb
  by_cases q1 : b < a
  · have e1 : lg_cmp (zl a) (zl b) = 1 := by simp [lg_cmp, h1.mpr q1]
    rw [e1]
    refine ⟨⟨fun h => absurd h (by decide), fun h => by omega⟩, ⟨fun _ => q1, fun _ => by decide⟩, ⟨fun h => absurd h (by decide), fun h => by omega⟩, ⟨fun _ => by omega, fun _ => by decide⟩, ⟨fun h => absurd h (by decide), fun h => absurd q1 h⟩⟩
  · have n1 : ¬ zl b < zl a := fun h => q1 (h1.mp h)
    by_cases q2 : a = b
    · have e1 : lg_cmp (zl a) (zl b) = 0 := by rw [q2]; simp [lg_cmp]
      rw [e1]
      refine ⟨⟨fun h => absurd h (by decide), fun h => by omega⟩, ⟨fun h => absurd h (by decide), fun h => by omega⟩, ⟨fun _ => q2, fun _ => rfl⟩, ⟨fun _ => by omega, fun _ => by decide⟩, ⟨fun _ => q1, fun _ => by decide⟩⟩
    · have n2 : ¬ zl a = zl b := fun h => q2 (h2.mp h)
      have e1 : lg_cmp (zl a) (zl b) = -1 := by simp [lg_cmp, n1, n2]
      rw [e1]
      refine ⟨⟨fun _ => by omega, fun _ => by decide⟩, ⟨fun h => absurd h (by decide), fun h => by omega⟩, ⟨fun h => absurd h (by decide), fun h => by omega⟩, ⟨fun h => absurd h (by decide), fun h => by omega⟩, ⟨fun _ => q1, fun _ => by decide⟩⟩
theorem zr_lcmp_lt (hx : p.tables.exec = Jvm.exec) (hb : c.code = cc) {a b off : Int} {tgt : Nat} (ha : zL a) (hb' : zL b) (hc : decode cc pc = .ok (.lcmp, 1)) (hd : decode cc (pc + 1) = .ok (.ifCond .lt off, 3)) (ht : ((pc + 1 : Nat) : Int) + off = (tgt : Int)) (kt : a < b → W p l e R s m args below meth c H locs cells slots Q (F0 m tgt ls rest)) (kf : ¬ a < b → W p l e R s m args below meth c H locs cells slots Q (F0 m (pc + 4) ls rest)) : W p l e R s m args below meth c H locs cells slots Q (F0 m pc ls (.long (zl b) :: .long (zl a) :: rest)) := W.lcmp hx hb hc (lv_if_lt hx hb hd ht (fun h => kt ((zl_cmp ha hb').1.mp h)) (fun h => kf (fun q => h ((zl_cmp ha hb').1.mpr q))))
theorem zr_lcmp_ge (hx : p.tables.exec = Jvm.exec) (hb : c.code = cc) {a b off : Int} {tgt : Nat} (ha : zL a) (hb' : zL b) (hc : decode cc pc = .ok (.lcmp, 1)) (hd : decode cc (pc + 1) = .ok (.ifCond .ge off, 3)) (ht : ((pc + 1 : Nat) : Int) + off = (tgt : Int)) (kt : ¬ a < b → W p l e R s m args below meth c H locs cells slots Q (F0 m tgt ls rest)) (kf : a < b → W p l e R s m args below meth c H locs cells slots Q (F0 m (pc + 4) ls rest)) : W p l e R s m args below meth c H locs cells slots Q (F0 m pc ls (.long (zl b) :: .long (zl a) :: rest)) := W.lcmp hx hb hc (lv_if_ge hx hb hd ht (fun h => kt ((zl_cmp ha hb').2.2.2.1.mp h)) (fun h => kf (Decidable.byContradiction (fun q => h ((zl_cmp ha hb').2.2.2.1.mpr q)))))
theorem zr_lcmp_gt (hx : p.tables.exec = Jvm.exec) (hb : c.code = cc) {a b off : Int} {tgt : Nat} (ha : zL a) (hb' : zL b) (hc : decode cc pc = .ok (.lcmp, 1)) (hd : decode cc (pc + 1) = .ok (.ifCond .gt off, 3)) (ht : ((pc + 1 : Nat) : Int) + off = (tgt : Int)) (kt : b < a → W p l e R s m args below meth c H locs cells slots Q (F0 m tgt ls rest)) (kf : ¬ b < a → W p l e R s m args below meth c H locs cells slots Q (F0 m (pc + 4) ls rest)) : W p l e R s m args below meth c H locs cells slots Q (F0 m pc ls (.long (zl b) :: .long (zl a) :: rest)) := W.lcmp hx hb hc (lv_if_gt hx hb hd ht (fun h => kt ((zl_cmp ha hb').2.1.mp h)) (fun h => kf (fun q => h ((zl_cmp ha hb').2.1.mpr q))))
theorem zr_lcmp_le (hx : p.tables.exec = Jvm.exec) (hb : c.code = cc) {a b off : Int} {tgt : Nat} (ha : zL a) (hb' : zL b) (hc : decode cc pc = .ok (.lcmp, 1)) (hd : decode cc (pc + 1) = .ok (.ifCond .le off, 3)) (ht : ((pc + 1 : Nat) : Int) + off = (tgt : Int)) (kt : ¬ b < a → W p l e R s m args below meth c H locs cells slots Q (F0 m tgt ls rest)) (kf : b < a → W p l e R s m args below meth c H locs cells slots Q (F0 m (pc + 4) ls rest)) : W p l e R s m args below meth c H locs cells slots Q (F0 m pc ls (.long (zl b) :: .long (zl a) :: rest)) := W.lcmp hx hb hc (lv_if_le hx hb hd ht (fun h => kt ((zl_cmp ha hb').2.2.2.2.mp h)) (fun h => kf (Decidable.byContradiction (fun q => h ((zl_cmp ha hb').2.2.2.2.mpr q)))))
theorem zr_lcmp_eq (hx : p.tables.exec = Jvm.exec) (hb : c.code = cc) {a b off : Int} {tgt : Nat} (ha : zL a) (hb' : zL b) (hc : decode cc pc = .ok (.lcmp, 1)) (hd : decode cc (pc + 1) = .ok (.ifCond .eq off, 3)) (ht : ((pc + 1 : Nat) : Int) + off = (tgt : Int)) (kt : a = b → W p l e R s m args below meth c H locs cells slots Q (F0 m tgt ls rest)) (kf : ¬ a = b → W p l e R s m args below meth c H locs cells slots Q (F0 m (pc + 4) ls rest)) : W p l e R s m args below meth c H locs cells slots Q (F0 m pc ls (.long (zl b) :: .long (zl a) :: rest)) := W.lcmp hx hb hc (lv_if_eq hx hb hd ht (fun h => kt ((zl_cmp ha hb').2.2.1.mp h)) (fun h => kf (fun q => h ((zl_cmp ha hb').2.2.1.mpr q))))
theorem zr_lcmp_ne (hx : p.tables.exec = Jvm.exec) (hb : c.code = cc) {a b off : Int} {tgt : Nat} (ha : zL a) (hb' : zL b) (hc : decode cc pc = .ok (.lcmp, 1)) (hd : decode cc (pc + 1) = .ok (.ifCond .ne off, 3)) (ht : ((pc + 1 : Nat) : Int) + off = (tgt : Int)) (kt : ¬ a = b → W p l e R s m args below meth c H locs cells slots Q (F0 m tgt ls rest)) (kf : a = b → W p l e R s m args below meth c H locs cells slots Q (F0 m (pc + 4) ls rest)) : W p l e R s m args below meth c H locs cells slots Q (F0 m pc ls (.long (zl b) :: .long (zl a) :: rest)) := W.lcmp hx hb hc (lv_if_ne hx hb hd ht (fun h => kt (fun q => h ((zl_cmp ha hb').2.2.1.mpr q))) (fun h => kf ((zl_cmp ha hb').2.2.1.mp h)))
theorem zr_iald (hx : p.tables.exec = Jvm.exec) (hb : c.code = cc) {D : va_G} {cl : List vw_C} {tys : List (ClassId × FieldType)} {ws : va_W} {q : Nat} (hK : va_K D cl tys s) (hP : va_P D cl ws H) (q0 t0 : Nat) {cA : ClassId} {n : Nat} {g : Int → Int} (ha : ws[q0]? = some (q, .inl (cA, n, .inl (zA g)))) (ht : tys[t0]? = some (cA, .int)) {i : Int} (h0 : 0 ≤ i) (h1 : i < (n : Int)) (hn : (n : Int) ≤ 2147483647) (hd : decode cc pc = .ok (.iaload, 1)) (k : W p l e R s m args below meth c H locs cells slots Q (F0 m (pc + 1) ls (.int (zi (g i)) :: rest))) : W p l e R s m args below meth c H locs cells slots Q (F0 m pc ls (.int (zi i) :: .ref q :: rest)) := va_iald hx hb hK hP q0 t0 ha ht (zp_in h0 h1 hn) hd (by rw [zA_at g h0 (by omega)]; exact k)
theorem zr_iast (hx : p.tables.exec = Jvm.exec) (hb : c.code = cc) {D : va_G} {cl : List vw_C} {tys : List (ClassId × FieldType)} {ws : va_W} {q : Nat} {A : Nat → Prop} {H0 : Heap} (hK : va_K D cl tys s) (hP : va_P D cl ws H) (hD : va_D A ws) (hS : va_S A H0 H locs) (q0 t0 : Nat) {cA : ClassId} {n : Nat} {g : Int → Int} (ha : ws[q0]? = some (q, .inl (cA, n, .inl (zA g)))) (ht : tys[t0]? = some (cA, .int)) {i v : Int} (h0 : 0 ≤ i) (h1 : i < (n : Int)) (hn : (n : Int) ≤ 2147483647) (hd : decode cc pc = .ok (.iastore, 1)) (kk : ∀ (H1 : Heap) (locs1 : List Loc), va_P D cl (ws.set q0 (q, .inl (cA, n, .inl (zA (zu g i v))))) H1 → va_D A (ws.set q0 (q, .inl (cA, n, .inl (zA (zu g i v))))) → va_S A H0 H1 locs1 → W p l e R s m args below meth c H1 locs1 cells slots Q (F0 m (pc + 1) ls rest)) : W p l e R s m args below meth c H locs cells slots Q (F0 m pc ls (.int (zi v) :: .int (zi i) :: .ref q :: rest)) := va_iast hx hb hK hP hD hS q0 t0 ha ht (zp_in h0 h1 hn) hd (fun H1 locs1 hP1 hD1 hS1 => kk H1 locs1 (by rw [← zA_up g h0 (by omega)]; exact hP1) (by rw [← zA_up g h0 (by omega)]; exact hD1) hS1)
def zmax (a b : Int) : Int := if a < b then b else a
def zmin (a b : Int) : Int := if b < a then b else a
def zabs (a : Int) : Int := if 0 ≤ a then a else -a
theorem zi_if {c : Prop} [Decidable c] (a b : Int) : (if c then zi a else zi b) = zi (if c then a else b) := by split <;> rfl
theorem zl_if {c : Prop} [Decidable c] (a b : Int) : (if c then zl a else zl b) = zl (if c then a else b) := by split <;> rfl
theorem zi_max {a b : Int} (ha : zI a) (hb : zI b) : (if zi a < zi b then zi b else zi a) = zi (zmax a b) := by
  rw [zi_if]
  unfold zmax
  by_cases h : a < b
  · rw [if_pos h, if_pos ((zi_lt ha hb).mpr h)]
  · rw [if_neg h, if_neg (fun q => h ((zi_lt ha hb).mp q))]
theorem zi_min {a b : Int} (ha : zI a) (hb : zI b) : (if zi b < zi a then zi b else zi a) = zi (zmin a b) := by
  rw [zi_if]
  unfold zmin
  by_cases h : b < a
  · rw [if_pos h, if_pos ((zi_lt hb ha).mpr h)]
  · rw [if_neg h, if_neg (fun q => h ((zi_lt hb ha).mp q))]
theorem zi_abs {a : Int} (ha : zI a) : (if 0 ≤ zi a then zi a else 0 - zi a) = zi (zabs a) := by
  rw [show (0 : Int32) - zi a = zi (-a) from by rw [← zi_neg]; exact Int32.zero_sub _, zi_if]
  unfold zabs
  by_cases h : 0 ≤ a
  · rw [if_pos h, if_pos (show (0 : Int32) ≤ zi a from (zi_le zI_0 ha).mpr h)]
  · rw [if_neg h, if_neg (show ¬ (0 : Int32) ≤ zi a from fun q => h ((zi_le zI_0 ha).mp q))]
theorem zb_max {lo hi a b : Int} (ha : zB lo hi a) (hb : zB lo hi b) : zB lo hi (zmax a b) := by unfold zmax; split; exact hb; exact ha
theorem zb_min {lo hi a b : Int} (ha : zB lo hi a) (hb : zB lo hi b) : zB lo hi (zmin a b) := by unfold zmin; split; exact hb; exact ha
theorem zb_zabs {A a : Int} (ha : zB (-A) A a) : zB 0 A (zabs a) := by
  obtain ⟨h1, h2⟩ := ha
  unfold zabs
  split <;> constructor <;> omega
theorem zr_max (hx : p.tables.exec = Jvm.exec) (hb : c.code = cc) (hml : c.maxLocals = ls.size) {own : String} {index : Nat} (hown : s.vm.findClass own = some m.cls) (hlink : (Cond.methodLink own index Lib.Math.max.name).before args s = true) (hstat : (Cond.static Lib.Math.max.name).before args s = true) (hini : (Cond.initialized "java/lang/Math").before args s = true) (hcode : (Cond.code Lib.Math.max.name Lib.Math.max.code 2 (some .int)).before args s = true) (hframes : 1 ≤ R.frames) (hlocals : (rest.map fun v => v.category).sum + 13 ≤ R.locals) (hc : cells ≤ R.cells) (hs : slots ≤ R.slots) {a b : Int} (ha : zI a) (hb' : zI b) (hd : decode cc pc = .ok (.invokestatic index, 3)) (k : W p l e R s m args below meth c H locs cells slots Q (F0 m (pc + 3) ls (.int (zi (zmax a b)) :: rest))) : W p l e R s m args below meth c H locs cells slots Q (F0 m pc ls (.int (zi b) :: .int (zi a) :: rest)) := va_mmax hx hb hml hown hlink hstat hini hcode hframes hlocals hc hs hd (by rw [zi_max ha hb']; exact k)
theorem zr_min (hx : p.tables.exec = Jvm.exec) (hb : c.code = cc) (hml : c.maxLocals = ls.size) {own : String} {index : Nat} (hown : s.vm.findClass own = some m.cls) (hlink : (Cond.methodLink own index Lib.Math.min.name).before args s = true) (hstat : (Cond.static Lib.Math.min.name).before args s = true) (hini : (Cond.initialized "java/lang/Math").before args s = true) (hcode : (Cond.code Lib.Math.min.name Lib.Math.min.code 2 (some .int)).before args s = true) (hframes : 1 ≤ R.frames) (hlocals : (rest.map fun v => v.category).sum + 13 ≤ R.locals) (hc : cells ≤ R.cells) (hs : slots ≤ R.slots) {a b : Int} (ha : zI a) (hb' : zI b) (hd : decode cc pc = .ok (.invokestatic index, 3)) (k : W p l e R s m args below meth c H locs cells slots Q (F0 m (pc + 3) ls (.int (zi (zmin a b)) :: rest))) : W p l e R s m args below meth c H locs cells slots Q (F0 m pc ls (.int (zi b) :: .int (zi a) :: rest)) := va_mmin hx hb hml hown hlink hstat hini hcode hframes hlocals hc hs hd (by rw [zi_min ha hb']; exact k)
theorem zr_abs (hx : p.tables.exec = Jvm.exec) (hb : c.code = cc) (hml : c.maxLocals = ls.size) {own : String} {index : Nat} (hown : s.vm.findClass own = some m.cls) (hlink : (Cond.methodLink own index Lib.Math.abs.name).before args s = true) (hstat : (Cond.static Lib.Math.abs.name).before args s = true) (hini : (Cond.initialized "java/lang/Math").before args s = true) (hcode : (Cond.code Lib.Math.abs.name Lib.Math.abs.code 1 (some .int)).before args s = true) (hframes : 1 ≤ R.frames) (hlocals : (rest.map fun v => v.category).sum + 13 ≤ R.locals) (hc : cells ≤ R.cells) (hs : slots ≤ R.slots) {a : Int} (ha : zI a) (hd : decode cc pc = .ok (.invokestatic index, 3)) (k : W p l e R s m args below meth c H locs cells slots Q (F0 m (pc + 3) ls (.int (zi (zabs a)) :: rest))) : W p l e R s m args below meth c H locs cells slots Q (F0 m pc ls (.int (zi a) :: rest)) := va_mabs hx hb hml hown hlink hstat hini hcode hframes hlocals hc hs hd (by rw [zi_abs ha]; exact k)
def zR (v : Value) : Array Value → State → Outcome → State → Prop := fun _ st oc t => oc = .returned (some v) ∧ t.heap = st.heap
def zQ (v : Option Value) (P : Heap → Prop) (A : Nat → Prop) : Array Value → State → Outcome → State → Prop := fun _ st oc t => oc = .returned v ∧ P t.heap ∧ va_F A st t
variable {st0 : List Value} {a : Array Value} {A0 A1 : Nat → Prop} {H0 : Heap} {free : Addr → Prop}
theorem zc_n {v : Value} (hr : va_Run p l e R s m args below meth c H locs cells slots 0 0 (F0 m pc ls st0) rest (zR v a) (fun _ => False)) (kk : W p l e R s m args below meth c H locs cells slots Q (F0 m (pc + 3) ls (v :: rest))) : W p l e R s m args below meth c H locs cells slots Q (F0 m pc ls st0) := by
  intro T hT X
  obtain ⟨w, st₀, t, T', L, h0, X', hL, e1, e2, ⟨hv, hh⟩, st⟩ := hr T hT X
  cases hv
  obtain ⟨t2, a1, b1⟩ := kk T' (by rw [e1, hh, h0]) (Stand.forget X' (fun q h => (hL q h).elim))
  exact ⟨t2, st t2 a1, b1⟩
theorem zc_w {mc ms : Nat} {v : Option Value} {P : Heap → Prop} (hr : va_Run p l e R s m args below meth c H locs cells slots mc ms (F0 m pc ls st0) rest (zQ v P A1 a) free) (hS : va_S A0 H0 H locs) (hA : ∀ q, q < H.size → A1 q → A0 q) (hf : ∀ q, free q → A0 q)
    (kk : ∀ (H1 : Heap) (locs1 : List Loc), P H1 → H.size ≤ H1.size → (∀ q : Nat, q < H.size → ¬ A1 q → H1[q]? = H[q]?) → va_S A0 H0 H1 locs1 → W p l e R s m args below meth c H1 locs1 (cells + mc) (slots + ms) Q (F0 m (pc + 3) ls (v.toList ++ rest))) : W p l e R s m args below meth c H locs cells slots Q (F0 m pc ls st0) := by
  intro T hT X
  obtain ⟨w, st₀, t, T', L, h0, X', hL, e1, e2, ⟨hv, hp, hz, hk⟩, st⟩ := hr T hT X
  cases hv
  rw [h0] at hz hk
  obtain ⟨t2, a1, b1⟩ := kk T'.heap (locs ++ L) (by rw [e1]; exact hp) (by rw [e1]; exact hz) (fun q h1 h2 => by rw [e1]; exact hk q h1 h2)
    ⟨Nat.le_trans hS.1 (by rw [e1]; exact hz), fun q h1 h2 => by rw [e1, hk q (Nat.lt_of_lt_of_le h1 hS.1) (fun z => h2 (hA q (Nat.lt_of_lt_of_le h1 hS.1) z))]; exact hS.2.1 q h1 h2, fun q hq => by
      rcases List.mem_append.mp hq with h | h
      · exact hS.2.2 q h
      · exact hf _ (hL q h)⟩ T' rfl X'
  exact ⟨t2, st t2 a1, b1⟩
end ZR
section ZH
variable {p : Program} {l : Launch} {e : Env} {R : Room} {s : State} {m : MethodId} {args : Array Value} {below : List Frame} {meth : Method} {c : Code} {H : Heap} {locs : List Loc} {cells slots : Nat} {Q : State → Prop}
variable {cc : ByteArray} {pc : Nat} {ls : Array Slot} {rest : List Value}
/-- the head of any method -/
theorem zh {y : MethodName} {ws ws' : List Cond} {rm : Room} {av : List Value} {B : State → Prop} {Qc : Array Value → State → Outcome → State → Prop} {mc ms : Nat} {free : Addr → Prop} {maxL : Nat} {ret : Option FieldType} {C : String}
    (hy : plainName y.cls = true) (hyc : y.cls = C) (hw : ws = Cond.code y cc maxL ret :: ws') (hn : (lg_sl av).length ≤ maxL)
    (body : ∀ (p : Program) (e : Env) (s : State) (m : MethodId) (below : List Frame) (meth : Method) (c : Code) (ls : Array Slot), p.tables.exec = Jvm.exec → c.code = cc → meth.sig.returnType = ret → meth.locks = false → c.maxLocals = maxL → s.vm.findClass C = some m.cls → meth.name = y.name → (∀ w ∈ ws, w.before av.toArray s = true) → lv_has ls maxL (lv_args 0 av) → B s →
      W p l e rm s m av.toArray below meth c s.heap [] 0 0 (MQ below Qc av.toArray s mc ms free) (F0 m 0 ls [])) : Met l y ws rm (va_Pc av B) Qc mc ms free := by
  refine Met.ofW (cc := cc) (maxL := maxL) (ret := ret) hy hw ?_
  intro p e s m args below meth c s₁ BB hml hP
  obtain ⟨rfl, hB⟩ := hP
  have hts := atoms_spec (ws := ws) BB.pre
  have hown : s.vm.findClass C = some m.cls := hyc ▸ findClass_of_methodNamed BB.named
  have hl := lv_entry av (n := maxL) hn
  rw [lg_entry_eq]
  exact body p e s m below meth c _ BB.exec BB.bytes BB.returns BB.notSynchronized hml hown (name_of_methodNamed BB.named BB.method).1 hts hl hB
theorem ze_i (hx : p.tables.exec = Jvm.exec) (hb : c.code = cc) (hr : meth.sig.returnType = some .int) (hlocks : meth.locks = false) {a r : Int} (hq : a = r) (hd : decode cc pc = .ok (.ireturn, 1)) :
    W p l e R s m args below meth c s.heap [] 0 0 (MQ below (zR (.int (zi r))) args s 0 0 (fun _ => False)) (F0 m pc ls [.int (zi a)]) :=
  W.iret hx hb hr (fun t ht _ => ⟨by rw [hq], ht⟩) (fun q h => nomatch h) hd hlocks
theorem ze_l (hx : p.tables.exec = Jvm.exec) (hb : c.code = cc) (hr : meth.sig.returnType = some .long) (hlocks : meth.locks = false) {a r : Int} (hq : a = r) (hd : decode cc pc = .ok (.lreturn, 1)) :
    W p l e R s m args below meth c s.heap [] 0 0 (MQ below (zR (.long (zl r))) args s 0 0 (fun _ => False)) (F0 m pc ls [.long (zl a)]) :=
  W.lret hx hb hr (fun t ht _ => ⟨by rw [hq], ht⟩) (fun q h => nomatch h) hd hlocks
theorem zn_z {a : Int} (h : zB 0 1 a) : narrow .boolean (.int (zi a)) = .int (zi a) := by
  obtain ⟨h1, h2⟩ := h
  rcases (show a = 0 ∨ a = 1 by omega) with rfl | rfl <;> rfl
theorem ze_z (hx : p.tables.exec = Jvm.exec) (hb : c.code = cc) (hr : meth.sig.returnType = some .boolean) (hlocks : meth.locks = false) {a r : Int} (hz : zB 0 1 a) (hq : a = r) (hd : decode cc pc = .ok (.ireturn, 1)) :
    W p l e R s m args below meth c s.heap [] 0 0 (MQ below (zR (.int (zi r))) args s 0 0 (fun _ => False)) (F0 m pc ls [.int (zi a)]) :=
  W.zret hx hb hr (zn_z hz) (fun t ht _ => ⟨by rw [hq], ht⟩) (fun q h => nomatch h) hd hlocks
theorem zw_i {P : Heap → Prop} {A : Nat → Prop} (hx : p.tables.exec = Jvm.exec) (hb : c.code = cc) (hr : meth.sig.returnType = some .int) (hlocks : meth.locks = false) {a r : Int} (hq : a = r) (hP : P H) (hS : va_S A s.heap H locs) (hd : decode cc pc = .ok (.ireturn, 1)) :
    W p l e R s m args below meth c H locs cells slots (MQ below (zQ (some (.int (zi r))) P A) args s cells slots A) (F0 m pc ls [.int (zi a)]) :=
  W.iret hx hb hr (fun t ht _ => ⟨by rw [hq], by rw [ht]; exact hP, hS.F ht⟩) hS.2.2 hd hlocks
theorem zw_z {P : Heap → Prop} {A : Nat → Prop} (hx : p.tables.exec = Jvm.exec) (hb : c.code = cc) (hr : meth.sig.returnType = some .boolean) (hlocks : meth.locks = false) {a r : Int} (hz : zB 0 1 a) (hq : a = r) (hP : P H) (hS : va_S A s.heap H locs) (hd : decode cc pc = .ok (.ireturn, 1)) :
    W p l e R s m args below meth c H locs cells slots (MQ below (zQ (some (.int (zi r))) P A) args s cells slots A) (F0 m pc ls [.int (zi a)]) :=
  W.zret hx hb hr (zn_z hz) (fun t ht _ => ⟨by rw [hq], by rw [ht]; exact hP, hS.F ht⟩) hS.2.2 hd hlocks
theorem zw_v {P : Heap → Prop} {A : Nat → Prop} (hx : p.tables.exec = Jvm.exec) (hb : c.code = cc) (hr : meth.sig.returnType = none) (hlocks : meth.locks = false) (hP : P H) (hS : va_S A s.heap H locs) (hd : decode cc pc = .ok (.return_, 1)) :
    W p l e R s m args below meth c H locs cells slots (MQ below (zQ none P A) args s cells slots A) (F0 m pc ls []) :=
  W.vret hx hb hr (fun t ht _ => ⟨rfl, by rw [ht]; exact hP, hS.F ht⟩) hS.2.2 hd hlocks
end ZH
theorem zb_tdivp {al ah a b c : Int} (h : zB al ah a) (h0 : 0 ≤ al) (hc : 0 < c) (hb : c ≤ b) : zB 0 (ah / c) (a.tdiv b) := by
  have ha : 0 ≤ a := Int.le_trans h0 h.1
  have hb0 : 0 < b := Int.lt_of_lt_of_le hc hb
  rw [Int.tdiv_eq_ediv_of_nonneg ha]
  have h1 : 0 ≤ a / b := Int.ediv_nonneg ha (Int.le_of_lt hb0)
  refine ⟨h1, Int.le_ediv_of_mul_le hc ?_⟩
  have h2 : a / b * b ≤ a := Int.ediv_mul_le a (Int.ne_of_gt hb0)
  have h3 : a / b * c ≤ a / b * b := Int.mul_le_mul_of_nonneg_left hb h1
  exact Int.le_trans h3 (Int.le_trans h2 h.2)
theorem zb_tmodp {al ah bl bh a b : Int} (h : zB al ah a) (g : zB bl bh b) (h0 : 0 ≤ al) (hc : 0 < bl) : zB 0 (bh - 1) (a.tmod b) := by
  have ha : 0 ≤ a := Int.le_trans h0 h.1
  have hb0 : 0 < b := Int.lt_of_lt_of_le hc g.1
  rw [Int.tmod_eq_emod_of_nonneg ha]
  have h1 := Int.emod_nonneg a (Int.ne_of_gt hb0)
  have h2 := Int.emod_lt_of_pos a hb0
  have := g.2
  constructor <;> omega
theorem zp_cast (k : Nat) : (2 : Int) ^ k = ((2 ^ k : Nat) : Int) := by
  induction k with
  | zero => rfl
  | succ k ih => rw [Int.pow_succ, ih, Nat.pow_succ, Int.natCast_mul]; rfl
theorem zb_pow2 {lo b : Int} {n : Nat} (h : zB lo (n : Int) b) (_h0 : 0 ≤ lo) : zB 1 ((2 : Int) ^ n) (2 ^ b.toNat) := by
  rw [zp_cast, zp_cast]
  have h1 : b.toNat ≤ n := by have := h.2; omega
  have h2 : 2 ^ b.toNat ≤ 2 ^ n := Nat.pow_le_pow_right (by decide) h1
  have h3 : 0 < 2 ^ b.toNat := Nat.pow_pos (by decide)
  constructor <;> omega
theorem zi_shl1 : ∀ n : Nat, n < 31 → zi 1 <<< (zi (n : Int) &&& 31) = zi ((2 : Int) ^ n) := by decide +kernel
section ZR2
variable {p : Program} {l : Launch} {e : Env} {R : Room} {s : State} {m : MethodId} {args : Array Value} {below : List Frame} {meth : Method} {c : Code} {H : Heap} {locs : List Loc} {cells slots : Nat} {Q : State → Prop}
variable {cc : ByteArray} {pc : Nat} {ls : Array Slot} {rest : List Value}
theorem zr_shl1 (hx : p.tables.exec = Jvm.exec) (hb : c.code = cc) {b : Int} (h : zB 0 30 b) (hd : decode cc pc = .ok (.ishl, 1)) (k : W p l e R s m args below meth c H locs cells slots Q (F0 m (pc + 1) ls (.int (zi (2 ^ b.toNat)) :: rest))) : W p l e R s m args below meth c H locs cells slots Q (F0 m pc ls (.int (zi b) :: .int (zi 1) :: rest)) :=
  lv_ishl hx hb hd (by
    have h1 := zi_shl1 b.toNat (by have := h.2; omega)
    rw [Int.toNat_of_nonneg h.1] at h1
    rw [h1]
    exact k)
end ZR2
end
section
def R_S : String := "SightRows"
def R_B : String := "SightRows$Boxes"
def R_M : String := "SightRowsModel"
def R_L : String := "SightRowsLaw"
def T_B : u_T := fun k => match k with
  | 0 => ("SightRows$Boxes", "westEdges", "[I", true)
  | 1 => ("SightRows$Boxes", "southEdges", "[I", true)
  | 2 => ("SightRows$Boxes", "eastEdges", "[I", true)
  | 3 => ("SightRows$Boxes", "northEdges", "[I", true)
  | 4 => ("SightRows$Boxes", "tops", "[I", true)
  | 5 => ("SightRows$Boxes", "size", "I", false)
  | 6 => ("SightRows$Boxes", "enterPart", "J", false)
  | 7 => ("SightRows$Boxes", "enterWhole", "J", false)
  | 8 => ("SightRows$Boxes", "leavePart", "J", false)
  | _ => ("SightRows$Boxes", "leaveWhole", "J", false)
def t_B : Nat → FieldType := fun k => match k with
  | 0 => .array .int
  | 1 => .array .int
  | 2 => .array .int
  | 3 => .array .int
  | 4 => .array .int
  | 5 => .int
  | 6 => .long
  | 7 => .long
  | 8 => .long
  | _ => .long
theorem nm_B : ∀ a, a < 10 → ∀ b, b < 10 → a ≠ b → (T_B a).2.1 ≠ (T_B b).2.1 := by decide +kernel
theorem ty_B : ∀ k, k < 10 → parseFieldDescriptor (T_B k).2.2.1 = some (t_B k) := by decide +kernel
def T_S : u_T := fun k => match k with
  | 0 => ("SightRows", "xs", "[I", true)
  | 1 => ("SightRows", "ys", "[I", true)
  | 2 => ("SightRows", "levels", "[I", true)
  | 3 => ("SightRows", "ways", "[I", true)
  | 4 => ("SightRows", "speeds", "[I", true)
  | 5 => ("SightRows", "widths", "[I", true)
  | 6 => ("SightRows", "boxes", "LSightRows$Boxes;", true)
  | 7 => ("SightRows", "stationCount", "I", false)
  | 8 => ("SightRows", "toldWidths", "I", false)
  | 9 => ("SightRows", "eyeHeight", "I", false)
  | 10 => ("SightRows", "thingHeight", "I", false)
  | 11 => ("SightRows", "reactTenths", "I", false)
  | _ => ("SightRows", "brakeRate", "I", false)
def t_S : Nat → FieldType := fun k => match k with
  | 0 => .array .int
  | 1 => .array .int
  | 2 => .array .int
  | 3 => .array .int
  | 4 => .array .int
  | 5 => .array .int
  | 6 => .object "SightRows$Boxes"
  | 7 => .int
  | 8 => .int
  | 9 => .int
  | 10 => .int
  | 11 => .int
  | _ => .int
theorem nm_S : ∀ a, a < 13 → ∀ b, b < 13 → a ≠ b → (T_S a).2.1 ≠ (T_S b).2.1 := by decide +kernel
theorem ty_S : ∀ k, k < 13 → parseFieldDescriptor (T_S k).2.2.1 = some (t_S k) := by decide +kernel
def T_M : u_T := fun k => match k with
  | 0 => ("SightRowsModel", "stations", "I", false)
  | 1 => ("SightRowsModel", "xs", "[I", true)
  | 2 => ("SightRowsModel", "ys", "[I", true)
  | 3 => ("SightRowsModel", "levels", "[I", true)
  | 4 => ("SightRowsModel", "ways", "[I", true)
  | 5 => ("SightRowsModel", "speeds", "[I", true)
  | 6 => ("SightRowsModel", "clears", "[I", true)
  | 7 => ("SightRowsModel", "boxes", "I", false)
  | 8 => ("SightRowsModel", "box", "[I", true)
  | 9 => ("SightRowsModel", "eye", "I", false)
  | 10 => ("SightRowsModel", "thing", "I", false)
  | 11 => ("SightRowsModel", "react", "I", false)
  | 12 => ("SightRowsModel", "brake", "I", false)
  | 13 => ("SightRowsModel", "beginUpper", "J", false)
  | 14 => ("SightRowsModel", "beginLower", "J", false)
  | 15 => ("SightRowsModel", "endUpper", "J", false)
  | _ => ("SightRowsModel", "endLower", "J", false)
def t_M : Nat → FieldType := fun k => match k with
  | 0 => .int
  | 1 => .array .int
  | 2 => .array .int
  | 3 => .array .int
  | 4 => .array .int
  | 5 => .array .int
  | 6 => .array .int
  | 7 => .int
  | 8 => .array .int
  | 9 => .int
  | 10 => .int
  | 11 => .int
  | 12 => .int
  | 13 => .long
  | 14 => .long
  | 15 => .long
  | _ => .long
theorem nm_M : ∀ a, a < 17 → ∀ b, b < 17 → a ≠ b → (T_M a).2.1 ≠ (T_M b).2.1 := by decide +kernel
theorem ty_M : ∀ k, k < 17 → parseFieldDescriptor (T_M k).2.2.1 = some (t_M k) := by decide +kernel
abbrev c_S_init : ByteArray := prog_1_method_1_code
def y_S_init : MethodName := ⟨R_S, "<init>", "()V"⟩
abbrev c_S_station : ByteArray := prog_1_method_2_code
def y_S_station : MethodName := ⟨R_S, "station", "(III)I"⟩
abbrev c_S_heights : ByteArray := prog_1_method_3_code
def y_S_heights : MethodName := ⟨R_S, "heights", "(II)Z"⟩
abbrev c_S_clear : ByteArray := prog_1_method_4_code
def y_S_clear : MethodName := ⟨R_S, "clear", "(III)Z"⟩
abbrev c_S_box : ByteArray := prog_1_method_5_code
def y_S_box : MethodName := ⟨R_S, "box", "(IIIII)I"⟩
abbrev c_S_speed : ByteArray := prog_1_method_6_code
def y_S_speed : MethodName := ⟨R_S, "speed", "(II)Z"⟩
abbrev c_S_brake : ByteArray := prog_1_method_7_code
def y_S_brake : MethodName := ⟨R_S, "brake", "(II)Z"⟩
abbrev c_S_way : ByteArray := prog_1_method_8_code
def y_S_way : MethodName := ⟨R_S, "way", "(I)I"⟩
abbrev c_S_view : ByteArray := prog_1_method_9_code
def y_S_view : MethodName := ⟨R_S, "view", "(III)I"⟩
abbrev c_S_sight : ByteArray := prog_1_method_10_code
def y_S_sight : MethodName := ⟨R_S, "sight", "(IZ)I"⟩
abbrev c_S_need : ByteArray := prog_1_method_11_code
def y_S_need : MethodName := ⟨R_S, "need", "(IZ)I"⟩
abbrev c_S_blind : ByteArray := prog_1_method_12_code
def y_S_blind : MethodName := ⟨R_S, "blind", "(ZII)I"⟩
abbrev c_S_setBack : ByteArray := prog_1_method_13_code
def y_S_setBack : MethodName := ⟨R_S, "setBack", "(II)I"⟩
abbrev c_S_allowed : ByteArray := prog_1_method_14_code
def y_S_allowed : MethodName := ⟨R_S, "allowed", "(IZ)I"⟩
abbrev c_S_overtake : ByteArray := prog_1_method_15_code
def y_S_overtake : MethodName := ⟨R_S, "overtake", "(I)I"⟩
abbrev c_S_seen : ByteArray := prog_1_method_16_code
def y_S_seen : MethodName := ⟨R_S, "seen", "(III)I"⟩
abbrev c_S_light : ByteArray := prog_1_method_17_code
def y_S_light : MethodName := ⟨R_S, "light", "(III)I"⟩
abbrev c_S_count : ByteArray := prog_1_method_18_code
def y_S_count : MethodName := ⟨R_S, "count", "(I)I"⟩
abbrev c_S_isWithin : ByteArray := prog_1_method_19_code
def y_S_isWithin : MethodName := ⟨R_S, "isWithin", "(III)Z"⟩
abbrev c_S_isInPlane : ByteArray := prog_1_method_20_code
def y_S_isInPlane : MethodName := ⟨R_S, "isInPlane", "(II)Z"⟩
abbrev c_S_isLevel : ByteArray := prog_1_method_21_code
def y_S_isLevel : MethodName := ⟨R_S, "isLevel", "(I)Z"⟩
abbrev c_S_isSide : ByteArray := prog_1_method_22_code
def y_S_isSide : MethodName := ⟨R_S, "isSide", "(I)Z"⟩
abbrev c_S_isStation : ByteArray := prog_1_method_23_code
def y_S_isStation : MethodName := ⟨R_S, "isStation", "(I)Z"⟩
abbrev c_S_squareOf : ByteArray := prog_1_method_24_code
def y_S_squareOf : MethodName := ⟨R_S, "squareOf", "(JJ)J"⟩
abbrev c_S_squareBetween : ByteArray := prog_1_method_25_code
def y_S_squareBetween : MethodName := ⟨R_S, "squareBetween", "(II)J"⟩
abbrev c_S_stepBetween : ByteArray := prog_1_method_26_code
def y_S_stepBetween : MethodName := ⟨R_S, "stepBetween", "(II)I"⟩
abbrev c_S_rootOf : ByteArray := prog_1_method_27_code
def y_S_rootOf : MethodName := ⟨R_S, "rootOf", "(J)I"⟩
abbrev c_S_interruption : ByteArray := prog_1_method_28_code
def y_S_interruption : MethodName := ⟨R_S, "interruption", "(II)I"⟩
abbrev c_S_isGroundAbove : ByteArray := prog_1_method_29_code
def y_S_isGroundAbove : MethodName := ⟨R_S, "isGroundAbove", "(III)Z"⟩
abbrev c_S_isBankInWay : ByteArray := prog_1_method_30_code
def y_S_isBankInWay : MethodName := ⟨R_S, "isBankInWay", "(III)Z"⟩
abbrev c_S_crossAt : ByteArray := prog_1_method_31_code
def y_S_crossAt : MethodName := ⟨R_S, "crossAt", "(III)J"⟩
abbrev c_S_sideOf : ByteArray := prog_1_method_32_code
def y_S_sideOf : MethodName := ⟨R_S, "sideOf", "(J)I"⟩
abbrev c_S_isFarther : ByteArray := prog_1_method_33_code
def y_S_isFarther : MethodName := ⟨R_S, "isFarther", "(JJJ)Z"⟩
abbrev c_S_widened : ByteArray := prog_1_method_34_code
def y_S_widened : MethodName := ⟨R_S, "widened", "(IIIII)I"⟩
abbrev c_S_sightFrom : ByteArray := prog_1_method_35_code
def y_S_sightFrom : MethodName := ⟨R_S, "sightFrom", "(IZ)I"⟩
abbrev c_S_needWith : ByteArray := prog_1_method_36_code
def y_S_needWith : MethodName := ⟨R_S, "needWith", "(IZI)I"⟩
abbrev c_S_slopeBeyond : ByteArray := prog_1_method_37_code
def y_S_slopeBeyond : MethodName := ⟨R_S, "slopeBeyond", "(IZ)J"⟩
abbrev c_S_roadBeyond : ByteArray := prog_1_method_38_code
def y_S_roadBeyond : MethodName := ⟨R_S, "roadBeyond", "(IZ)I"⟩
abbrev c_S_isBlind : ByteArray := prog_1_method_39_code
def y_S_isBlind : MethodName := ⟨R_S, "isBlind", "(IZ)Z"⟩
abbrev c_S_blindStations : ByteArray := prog_1_method_40_code
def y_S_blindStations : MethodName := ⟨R_S, "blindStations", "(Z)I"⟩
abbrev c_S_freeViews : ByteArray := prog_1_method_41_code
def y_S_freeViews : MethodName := ⟨R_S, "freeViews", "()I"⟩
abbrev c_M_init : ByteArray := prog_4_method_1_code
def y_M_init : MethodName := ⟨R_M, "<init>", "()V"⟩
abbrev c_M_within : ByteArray := prog_4_method_2_code
def y_M_within : MethodName := ⟨R_M, "within", "(III)Z"⟩
abbrev c_M_isStation : ByteArray := prog_4_method_3_code
def y_M_isStation : MethodName := ⟨R_M, "isStation", "(I)Z"⟩
abbrev c_M_root : ByteArray := prog_4_method_4_code
def y_M_root : MethodName := ⟨R_M, "root", "(J)I"⟩
abbrev c_M_square : ByteArray := prog_4_method_5_code
def y_M_square : MethodName := ⟨R_M, "square", "(J)J"⟩
abbrev c_M_isPoint : ByteArray := prog_4_method_6_code
def y_M_isPoint : MethodName := ⟨R_M, "isPoint", "(II)Z"⟩
abbrev c_M_station : ByteArray := prog_4_method_7_code
def y_M_station : MethodName := ⟨R_M, "station", "(III)I"⟩
abbrev c_M_heights : ByteArray := prog_4_method_8_code
def y_M_heights : MethodName := ⟨R_M, "heights", "(II)Z"⟩
abbrev c_M_clear : ByteArray := prog_4_method_9_code
def y_M_clear : MethodName := ⟨R_M, "clear", "(III)Z"⟩
abbrev c_M_box : ByteArray := prog_4_method_10_code
def y_M_box : MethodName := ⟨R_M, "box", "(IIIII)I"⟩
abbrev c_M_speed : ByteArray := prog_4_method_11_code
def y_M_speed : MethodName := ⟨R_M, "speed", "(II)Z"⟩
abbrev c_M_brake : ByteArray := prog_4_method_12_code
def y_M_brake : MethodName := ⟨R_M, "brake", "(II)Z"⟩
abbrev c_M_way : ByteArray := prog_4_method_13_code
def y_M_way : MethodName := ⟨R_M, "way", "(I)I"⟩
abbrev c_M_isAbove : ByteArray := prog_4_method_14_code
def y_M_isAbove : MethodName := ⟨R_M, "isAbove", "(III)Z"⟩
abbrev c_M_beside : ByteArray := prog_4_method_15_code
def y_M_beside : MethodName := ⟨R_M, "beside", "(III)J"⟩
abbrev c_M_lengthSquare : ByteArray := prog_4_method_16_code
def y_M_lengthSquare : MethodName := ⟨R_M, "lengthSquare", "(II)J"⟩
abbrev c_M_isBanked : ByteArray := prog_4_method_17_code
def y_M_isBanked : MethodName := ⟨R_M, "isBanked", "(III)Z"⟩
abbrev c_M_cut : ByteArray := prog_4_method_18_code
def y_M_cut : MethodName := ⟨R_M, "cut", "(IIII)Z"⟩
abbrev c_M_isBelow : ByteArray := prog_4_method_19_code
def y_M_isBelow : MethodName := ⟨R_M, "isBelow", "(JJIII)Z"⟩
abbrev c_M_isBoxed : ByteArray := prog_4_method_20_code
def y_M_isBoxed : MethodName := ⟨R_M, "isBoxed", "(IIIIIII)Z"⟩
abbrev c_M_interrupter : ByteArray := prog_4_method_21_code
def y_M_interrupter : MethodName := ⟨R_M, "interrupter", "(II)I"⟩
abbrev c_M_view : ByteArray := prog_4_method_22_code
def y_M_view : MethodName := ⟨R_M, "view", "(III)I"⟩
abbrev c_M_sightOf : ByteArray := prog_4_method_23_code
def y_M_sightOf : MethodName := ⟨R_M, "sightOf", "(IZ)I"⟩
abbrev c_M_needOf : ByteArray := prog_4_method_24_code
def y_M_needOf : MethodName := ⟨R_M, "needOf", "(IZI)I"⟩
abbrev c_M_remaining : ByteArray := prog_4_method_25_code
def y_M_remaining : MethodName := ⟨R_M, "remaining", "(IZ)I"⟩
abbrev c_M_isBlind : ByteArray := prog_4_method_26_code
def y_M_isBlind : MethodName := ⟨R_M, "isBlind", "(IZ)Z"⟩
abbrev c_M_sight : ByteArray := prog_4_method_27_code
def y_M_sight : MethodName := ⟨R_M, "sight", "(IZ)I"⟩
abbrev c_M_need : ByteArray := prog_4_method_28_code
def y_M_need : MethodName := ⟨R_M, "need", "(IZ)I"⟩
abbrev c_M_blind : ByteArray := prog_4_method_29_code
def y_M_blind : MethodName := ⟨R_M, "blind", "(ZII)I"⟩
abbrev c_M_setBack : ByteArray := prog_4_method_30_code
def y_M_setBack : MethodName := ⟨R_M, "setBack", "(II)I"⟩
abbrev c_M_allowed : ByteArray := prog_4_method_31_code
def y_M_allowed : MethodName := ⟨R_M, "allowed", "(IZ)I"⟩
abbrev c_M_overtake : ByteArray := prog_4_method_32_code
def y_M_overtake : MethodName := ⟨R_M, "overtake", "(I)I"⟩
abbrev c_M_seen : ByteArray := prog_4_method_33_code
def y_M_seen : MethodName := ⟨R_M, "seen", "(III)I"⟩
abbrev c_M_light : ByteArray := prog_4_method_34_code
def y_M_light : MethodName := ⟨R_M, "light", "(III)I"⟩
abbrev c_M_count : ByteArray := prog_4_method_35_code
def y_M_count : MethodName := ⟨R_M, "count", "(I)I"⟩
abbrev c_B_init : ByteArray := prog_2_method_1_code
def y_B_init : MethodName := ⟨R_B, "<init>", "()V"⟩
abbrev c_B_add : ByteArray := prog_2_method_2_code
def y_B_add : MethodName := ⟨R_B, "add", "(IIIII)I"⟩
abbrev c_B_firstAcross : ByteArray := prog_2_method_3_code
def y_B_firstAcross : MethodName := ⟨R_B, "firstAcross", "(IIIIII)I"⟩
abbrev c_B_takeWhole : ByteArray := prog_2_method_4_code
def y_B_takeWhole : MethodName := ⟨R_B, "takeWhole", "()V"⟩
abbrev c_B_narrow : ByteArray := prog_2_method_5_code
def y_B_narrow : MethodName := ⟨R_B, "narrow", "(IIII)Z"⟩
abbrev c_B_dipsBelow : ByteArray := prog_2_method_6_code
def y_B_dipsBelow : MethodName := ⟨R_B, "dipsBelow", "(JJJ)Z"⟩
abbrev c_L_law : ByteArray := code
/-- the words that every method of ours takes along -/
def zg (w : Cond) : Bool := match w with
  | .arrayClass _ => true
  | w => w.onTables && w.keeps
theorem zg_ok {w : Cond} (h : zg w = true) : (w.onTables && w.keeps) = true ∨ ∃ ty, w = .arrayClass ty := by
  unfold zg at h
  split at h
  · exact Or.inr ⟨_, rfl⟩
  · exact Or.inl h
def zT : List Cond := lw_tbl.filter zg
theorem zm {w : Cond} (h : w ∈ lw_tbl) (g : zg w = true) : w ∈ zT := List.mem_filter.mpr ⟨h, g⟩
theorem zT_in {w : Cond} (h : w ∈ zT) : w ∈ lw_tbl := (List.mem_filter.mp h).1
theorem zG {c0 : Cond} {y : MethodName} {b : ByteArray} {n : Nat} {r : Option FieldType} (h : Cond.code y b n r ∈ zT) : GoodIn (c0 :: zT) (Cond.code y b n r :: zT) := by
  intro w hw
  rcases List.mem_cons.mp hw with rfl | hw
  · exact ⟨List.mem_cons_of_mem _ h, zg_ok (List.mem_filter.mp h).2⟩
  · exact ⟨List.mem_cons_of_mem _ hw, zg_ok (List.mem_filter.mp hw).2⟩
theorem zGl {y : MethodName} {b : ByteArray} {n : Nat} {r : Option FieldType} (h : Cond.code y b n r ∈ zT) : GoodIn lw_tbl (Cond.code y b n r :: zT) := by
  intro w hw
  rcases List.mem_cons.mp hw with rfl | hw
  · exact ⟨zT_in h, zg_ok (List.mem_filter.mp h).2⟩
  · exact ⟨zT_in hw, zg_ok (List.mem_filter.mp hw).2⟩
theorem m_0 : (Cond.initialized R_L) ∈ zT := zm (by decide +kernel) (by decide +kernel)
theorem m_1 : (Cond.initialized R_S) ∈ zT := zm (by decide +kernel) (by decide +kernel)
theorem m_2 : (Cond.initialized R_B) ∈ zT := zm (by decide +kernel) (by decide +kernel)
theorem m_3 : (Cond.initialized R_M) ∈ zT := zm (by decide +kernel) (by decide +kernel)
theorem m_4 : (Cond.initialized "java/lang/Math") ∈ zT := zm (by decide +kernel) (by decide +kernel)
theorem m_5 : (Cond.classLink R_L 7 R_S) ∈ zT := zm (by decide +kernel) (by decide +kernel)
theorem m_6 : (Cond.instantiable R_S 13) ∈ zT := zm (by decide +kernel) (by decide +kernel)
theorem m_7 : (Cond.methodLink R_L 9 y_S_init) ∈ zT := zm (by decide +kernel) (by decide +kernel)
theorem m_8 : (Cond.instanceMethod y_S_init) ∈ zT := zm (by decide +kernel) (by decide +kernel)
theorem m_9 : (Cond.code y_S_init c_S_init 1 none) ∈ zT := zm (by decide +kernel) (by decide +kernel)
theorem m_10 : (Cond.methodLink R_S 1 objectInit) ∈ zT := zm (by decide +kernel) (by decide +kernel)
theorem m_11 : (Cond.instanceMethod objectInit) ∈ zT := zm (by decide +kernel) (by decide +kernel)
theorem m_12 : (Cond.code objectInit ⟨#[0xb1]⟩ 1 none) ∈ zT := zm (by decide +kernel) (by decide +kernel)
theorem m_13 : (Cond.classLink R_S 28 R_B) ∈ zT := zm (by decide +kernel) (by decide +kernel)
theorem m_14 : (Cond.instantiable R_B 10) ∈ zT := zm (by decide +kernel) (by decide +kernel)
theorem m_15 : (Cond.methodLinkNest R_S 30 y_B_init R_S) ∈ lw_tbl := by decide +kernel
theorem m_16 : (Cond.instanceMethod y_B_init) ∈ zT := zm (by decide +kernel) (by decide +kernel)
theorem m_17 : (Cond.code y_B_init c_B_init 1 none) ∈ zT := zm (by decide +kernel) (by decide +kernel)
theorem m_18 : (Cond.methodLink R_B 3 objectInit) ∈ zT := zm (by decide +kernel) (by decide +kernel)
theorem m_19 : (Cond.fieldLink R_B 9 R_B "westEdges" "[I") ∈ zT := zm (by decide +kernel) (by decide +kernel)
theorem m_20 : (Cond.fieldLink R_B 15 R_B "southEdges" "[I") ∈ zT := zm (by decide +kernel) (by decide +kernel)
theorem m_21 : (Cond.fieldLink R_B 18 R_B "eastEdges" "[I") ∈ zT := zm (by decide +kernel) (by decide +kernel)
theorem m_22 : (Cond.fieldLink R_B 21 R_B "northEdges" "[I") ∈ zT := zm (by decide +kernel) (by decide +kernel)
theorem m_23 : (Cond.fieldLink R_B 24 R_B "tops" "[I") ∈ zT := zm (by decide +kernel) (by decide +kernel)
theorem m_24 : (Cond.fieldLink R_B 27 R_B "size" "I") ∈ zT := zm (by decide +kernel) (by decide +kernel)
theorem m_25 : (Cond.fieldLinkNest R_S 119 R_B "size" "I" R_S) ∈ lw_tbl := by decide +kernel
theorem m_26 : (Cond.fieldLink R_B 42 R_B "enterPart" "J") ∈ zT := zm (by decide +kernel) (by decide +kernel)
theorem m_27 : (Cond.fieldLink R_B 46 R_B "enterWhole" "J") ∈ zT := zm (by decide +kernel) (by decide +kernel)
theorem m_28 : (Cond.fieldLink R_B 49 R_B "leavePart" "J") ∈ zT := zm (by decide +kernel) (by decide +kernel)
theorem m_29 : (Cond.fieldLink R_B 52 R_B "leaveWhole" "J") ∈ zT := zm (by decide +kernel) (by decide +kernel)
theorem m_30 : (Cond.arrayClass .int) ∈ zT := zm (by decide +kernel) (by decide +kernel)
theorem m_31 : (Cond.fieldLink R_S 9 R_S "xs" "[I") ∈ zT := zm (by decide +kernel) (by decide +kernel)
theorem m_32 : (Cond.fieldLink R_S 13 R_S "ys" "[I") ∈ zT := zm (by decide +kernel) (by decide +kernel)
theorem m_33 : (Cond.fieldLink R_S 16 R_S "levels" "[I") ∈ zT := zm (by decide +kernel) (by decide +kernel)
theorem m_34 : (Cond.fieldLink R_S 19 R_S "ways" "[I") ∈ zT := zm (by decide +kernel) (by decide +kernel)
theorem m_35 : (Cond.fieldLink R_S 22 R_S "speeds" "[I") ∈ zT := zm (by decide +kernel) (by decide +kernel)
theorem m_36 : (Cond.fieldLink R_S 25 R_S "widths" "[I") ∈ zT := zm (by decide +kernel) (by decide +kernel)
theorem m_37 : (Cond.fieldLink R_S 31 R_S "boxes" "LSightRows$Boxes;") ∈ zT := zm (by decide +kernel) (by decide +kernel)
theorem m_38 : (Cond.fieldLink R_S 56 R_S "stationCount" "I") ∈ zT := zm (by decide +kernel) (by decide +kernel)
theorem m_39 : (Cond.fieldLink R_S 73 R_S "toldWidths" "I") ∈ zT := zm (by decide +kernel) (by decide +kernel)
theorem m_40 : (Cond.fieldLink R_S 35 R_S "eyeHeight" "I") ∈ zT := zm (by decide +kernel) (by decide +kernel)
theorem m_41 : (Cond.fieldLink R_S 39 R_S "thingHeight" "I") ∈ zT := zm (by decide +kernel) (by decide +kernel)
theorem m_42 : (Cond.fieldLink R_S 42 R_S "reactTenths" "I") ∈ zT := zm (by decide +kernel) (by decide +kernel)
theorem m_43 : (Cond.fieldLink R_S 45 R_S "brakeRate" "I") ∈ zT := zm (by decide +kernel) (by decide +kernel)
theorem m_44 : (Cond.methodLink R_L 13 y_S_station) ∈ zT := zm (by decide +kernel) (by decide +kernel)
theorem m_45 : (Cond.instanceMethod y_S_station) ∈ zT := zm (by decide +kernel) (by decide +kernel)
theorem m_46 : (Cond.selects R_S y_S_station y_S_station) ∈ zT := zm (by decide +kernel) (by decide +kernel)
theorem m_47 : (Cond.code y_S_station c_S_station 5 (some .int)) ∈ zT := zm (by decide +kernel) (by decide +kernel)
theorem m_48 : (Cond.methodLink R_S 48 y_S_isInPlane) ∈ zT := zm (by decide +kernel) (by decide +kernel)
theorem m_49 : (Cond.static y_S_isInPlane) ∈ zT := zm (by decide +kernel) (by decide +kernel)
theorem m_50 : (Cond.code y_S_isInPlane c_S_isInPlane 2 (some .boolean)) ∈ zT := zm (by decide +kernel) (by decide +kernel)
theorem m_51 : (Cond.methodLink R_S 63 y_S_isWithin) ∈ zT := zm (by decide +kernel) (by decide +kernel)
theorem m_52 : (Cond.static y_S_isWithin) ∈ zT := zm (by decide +kernel) (by decide +kernel)
theorem m_53 : (Cond.code y_S_isWithin c_S_isWithin 3 (some .boolean)) ∈ zT := zm (by decide +kernel) (by decide +kernel)
theorem m_54 : (Cond.methodLink R_S 52 y_S_isLevel) ∈ zT := zm (by decide +kernel) (by decide +kernel)
theorem m_55 : (Cond.static y_S_isLevel) ∈ zT := zm (by decide +kernel) (by decide +kernel)
theorem m_56 : (Cond.code y_S_isLevel c_S_isLevel 1 (some .boolean)) ∈ zT := zm (by decide +kernel) (by decide +kernel)
theorem m_57 : (Cond.constant R_S 130 (-100000)) ∈ zT := zm (by decide +kernel) (by decide +kernel)
theorem m_58 : (Cond.constant R_S 131 100000) ∈ zT := zm (by decide +kernel) (by decide +kernel)
theorem m_59 : (Cond.methodLink R_S 59 y_S_stepBetween) ∈ zT := zm (by decide +kernel) (by decide +kernel)
theorem m_60 : (Cond.instanceMethod y_S_stepBetween) ∈ zT := zm (by decide +kernel) (by decide +kernel)
theorem m_61 : (Cond.code y_S_stepBetween c_S_stepBetween 3 (some .int)) ∈ zT := zm (by decide +kernel) (by decide +kernel)
theorem m_62 : (Cond.methodLink R_S 132 y_S_squareBetween) ∈ zT := zm (by decide +kernel) (by decide +kernel)
theorem m_63 : (Cond.instanceMethod y_S_squareBetween) ∈ zT := zm (by decide +kernel) (by decide +kernel)
theorem m_64 : (Cond.code y_S_squareBetween c_S_squareBetween 3 (some .long)) ∈ zT := zm (by decide +kernel) (by decide +kernel)
theorem m_65 : (Cond.methodLink R_S 107 y_S_squareOf) ∈ zT := zm (by decide +kernel) (by decide +kernel)
theorem m_66 : (Cond.static y_S_squareOf) ∈ zT := zm (by decide +kernel) (by decide +kernel)
theorem m_67 : (Cond.code y_S_squareOf c_S_squareOf 4 (some .long)) ∈ zT := zm (by decide +kernel) (by decide +kernel)
theorem m_68 : (Cond.methodLink R_S 136 y_S_rootOf) ∈ zT := zm (by decide +kernel) (by decide +kernel)
theorem m_69 : (Cond.static y_S_rootOf) ∈ zT := zm (by decide +kernel) (by decide +kernel)
theorem m_70 : (Cond.code y_S_rootOf c_S_rootOf 6 (some .int)) ∈ zT := zm (by decide +kernel) (by decide +kernel)
theorem m_71 : (Cond.methodLink R_S 102 Lib.Math.max.name) ∈ zT := zm (by decide +kernel) (by decide +kernel)
theorem m_72 : (Cond.static Lib.Math.max.name) ∈ zT := zm (by decide +kernel) (by decide +kernel)
theorem m_73 : (Cond.code Lib.Math.max.name Lib.Math.max.code 2 (some .int)) ∈ zT := zm (by decide +kernel) (by decide +kernel)
theorem m_74 : (Cond.methodLink R_L 18 y_S_heights) ∈ zT := zm (by decide +kernel) (by decide +kernel)
theorem m_75 : (Cond.instanceMethod y_S_heights) ∈ zT := zm (by decide +kernel) (by decide +kernel)
theorem m_76 : (Cond.selects R_S y_S_heights y_S_heights) ∈ zT := zm (by decide +kernel) (by decide +kernel)
theorem m_77 : (Cond.code y_S_heights c_S_heights 3 (some .boolean)) ∈ zT := zm (by decide +kernel) (by decide +kernel)
theorem m_78 : (Cond.methodLink R_L 23 y_S_clear) ∈ zT := zm (by decide +kernel) (by decide +kernel)
theorem m_79 : (Cond.instanceMethod y_S_clear) ∈ zT := zm (by decide +kernel) (by decide +kernel)
theorem m_80 : (Cond.selects R_S y_S_clear y_S_clear) ∈ zT := zm (by decide +kernel) (by decide +kernel)
theorem m_81 : (Cond.code y_S_clear c_S_clear 5 (some .boolean)) ∈ zT := zm (by decide +kernel) (by decide +kernel)
theorem m_82 : (Cond.methodLink R_S 67 y_S_isStation) ∈ zT := zm (by decide +kernel) (by decide +kernel)
theorem m_83 : (Cond.instanceMethod y_S_isStation) ∈ zT := zm (by decide +kernel) (by decide +kernel)
theorem m_84 : (Cond.code y_S_isStation c_S_isStation 2 (some .boolean)) ∈ zT := zm (by decide +kernel) (by decide +kernel)
theorem m_85 : (Cond.methodLink R_S 70 y_S_isSide) ∈ zT := zm (by decide +kernel) (by decide +kernel)
theorem m_86 : (Cond.static y_S_isSide) ∈ zT := zm (by decide +kernel) (by decide +kernel)
theorem m_87 : (Cond.code y_S_isSide c_S_isSide 1 (some .boolean)) ∈ zT := zm (by decide +kernel) (by decide +kernel)
theorem m_88 : (Cond.methodLink R_L 28 y_S_box) ∈ zT := zm (by decide +kernel) (by decide +kernel)
theorem m_89 : (Cond.instanceMethod y_S_box) ∈ zT := zm (by decide +kernel) (by decide +kernel)
theorem m_90 : (Cond.selects R_S y_S_box y_S_box) ∈ zT := zm (by decide +kernel) (by decide +kernel)
theorem m_91 : (Cond.code y_S_box c_S_box 6 (some .int)) ∈ zT := zm (by decide +kernel) (by decide +kernel)
theorem m_92 : (Cond.methodLinkNest R_S 76 y_B_add R_S) ∈ lw_tbl := by decide +kernel
theorem m_93 : (Cond.instanceMethod y_B_add) ∈ zT := zm (by decide +kernel) (by decide +kernel)
theorem m_94 : (Cond.code y_B_add c_B_add 7 (some .int)) ∈ zT := zm (by decide +kernel) (by decide +kernel)
theorem m_95 : (Cond.methodLink R_L 33 y_S_speed) ∈ zT := zm (by decide +kernel) (by decide +kernel)
theorem m_96 : (Cond.instanceMethod y_S_speed) ∈ zT := zm (by decide +kernel) (by decide +kernel)
theorem m_97 : (Cond.selects R_S y_S_speed y_S_speed) ∈ zT := zm (by decide +kernel) (by decide +kernel)
theorem m_98 : (Cond.code y_S_speed c_S_speed 3 (some .boolean)) ∈ zT := zm (by decide +kernel) (by decide +kernel)
theorem m_99 : (Cond.methodLink R_L 37 y_S_brake) ∈ zT := zm (by decide +kernel) (by decide +kernel)
theorem m_100 : (Cond.instanceMethod y_S_brake) ∈ zT := zm (by decide +kernel) (by decide +kernel)
theorem m_101 : (Cond.selects R_S y_S_brake y_S_brake) ∈ zT := zm (by decide +kernel) (by decide +kernel)
theorem m_102 : (Cond.code y_S_brake c_S_brake 3 (some .boolean)) ∈ zT := zm (by decide +kernel) (by decide +kernel)
theorem m_103 : (Cond.methodLink R_L 41 y_S_way) ∈ zT := zm (by decide +kernel) (by decide +kernel)
theorem m_104 : (Cond.instanceMethod y_S_way) ∈ zT := zm (by decide +kernel) (by decide +kernel)
theorem m_105 : (Cond.selects R_S y_S_way y_S_way) ∈ zT := zm (by decide +kernel) (by decide +kernel)
theorem m_106 : (Cond.code y_S_way c_S_way 2 (some .int)) ∈ zT := zm (by decide +kernel) (by decide +kernel)
theorem m_107 : (Cond.methodLink R_L 46 y_S_view) ∈ zT := zm (by decide +kernel) (by decide +kernel)
theorem m_108 : (Cond.instanceMethod y_S_view) ∈ zT := zm (by decide +kernel) (by decide +kernel)
theorem m_109 : (Cond.selects R_S y_S_view y_S_view) ∈ zT := zm (by decide +kernel) (by decide +kernel)
theorem m_110 : (Cond.code y_S_view c_S_view 5 (some .int)) ∈ zT := zm (by decide +kernel) (by decide +kernel)
theorem m_111 : (Cond.methodLink R_S 80 y_S_interruption) ∈ zT := zm (by decide +kernel) (by decide +kernel)
theorem m_112 : (Cond.instanceMethod y_S_interruption) ∈ zT := zm (by decide +kernel) (by decide +kernel)
theorem m_113 : (Cond.code y_S_interruption c_S_interruption 6 (some .int)) ∈ zT := zm (by decide +kernel) (by decide +kernel)
theorem m_114 : (Cond.methodLink R_S 140 Lib.Math.min.name) ∈ zT := zm (by decide +kernel) (by decide +kernel)
theorem m_115 : (Cond.static Lib.Math.min.name) ∈ zT := zm (by decide +kernel) (by decide +kernel)
theorem m_116 : (Cond.code Lib.Math.min.name Lib.Math.min.code 2 (some .int)) ∈ zT := zm (by decide +kernel) (by decide +kernel)
theorem m_117 : (Cond.methodLink R_S 143 y_S_isGroundAbove) ∈ zT := zm (by decide +kernel) (by decide +kernel)
theorem m_118 : (Cond.instanceMethod y_S_isGroundAbove) ∈ zT := zm (by decide +kernel) (by decide +kernel)
theorem m_119 : (Cond.code y_S_isGroundAbove c_S_isGroundAbove 10 (some .boolean)) ∈ zT := zm (by decide +kernel) (by decide +kernel)
theorem m_120 : (Cond.methodLink R_S 149 Lib.Math.abs.name) ∈ zT := zm (by decide +kernel) (by decide +kernel)
theorem m_121 : (Cond.static Lib.Math.abs.name) ∈ zT := zm (by decide +kernel) (by decide +kernel)
theorem m_122 : (Cond.code Lib.Math.abs.name Lib.Math.abs.code 1 (some .int)) ∈ zT := zm (by decide +kernel) (by decide +kernel)
theorem m_123 : (Cond.methodLink R_S 146 y_S_isBankInWay) ∈ zT := zm (by decide +kernel) (by decide +kernel)
theorem m_124 : (Cond.instanceMethod y_S_isBankInWay) ∈ zT := zm (by decide +kernel) (by decide +kernel)
theorem m_125 : (Cond.code y_S_isBankInWay c_S_isBankInWay 7 (some .boolean)) ∈ zT := zm (by decide +kernel) (by decide +kernel)
theorem m_126 : (Cond.methodLink R_S 153 y_S_crossAt) ∈ zT := zm (by decide +kernel) (by decide +kernel)
theorem m_127 : (Cond.instanceMethod y_S_crossAt) ∈ zT := zm (by decide +kernel) (by decide +kernel)
theorem m_128 : (Cond.code y_S_crossAt c_S_crossAt 8 (some .long)) ∈ zT := zm (by decide +kernel) (by decide +kernel)
theorem m_129 : (Cond.methodLink R_S 157 y_S_sideOf) ∈ zT := zm (by decide +kernel) (by decide +kernel)
theorem m_130 : (Cond.static y_S_sideOf) ∈ zT := zm (by decide +kernel) (by decide +kernel)
theorem m_131 : (Cond.code y_S_sideOf c_S_sideOf 2 (some .int)) ∈ zT := zm (by decide +kernel) (by decide +kernel)
theorem m_132 : (Cond.methodLink R_S 160 y_S_isFarther) ∈ zT := zm (by decide +kernel) (by decide +kernel)
theorem m_133 : (Cond.static y_S_isFarther) ∈ zT := zm (by decide +kernel) (by decide +kernel)
theorem m_134 : (Cond.code y_S_isFarther c_S_isFarther 6 (some .boolean)) ∈ zT := zm (by decide +kernel) (by decide +kernel)
theorem m_135 : (Cond.methodLinkNest R_S 113 y_B_firstAcross R_S) ∈ lw_tbl := by decide +kernel
theorem m_136 : (Cond.instanceMethod y_B_firstAcross) ∈ zT := zm (by decide +kernel) (by decide +kernel)
theorem m_137 : (Cond.code y_B_firstAcross c_B_firstAcross 9 (some .int)) ∈ zT := zm (by decide +kernel) (by decide +kernel)
theorem m_138 : (Cond.methodLink R_B 31 y_B_takeWhole) ∈ zT := zm (by decide +kernel) (by decide +kernel)
theorem m_139 : (Cond.instanceMethod y_B_takeWhole) ∈ zT := zm (by decide +kernel) (by decide +kernel)
theorem m_140 : (Cond.code y_B_takeWhole c_B_takeWhole 1 none) ∈ zT := zm (by decide +kernel) (by decide +kernel)
theorem m_141 : (Cond.methodLink R_B 34 y_B_narrow) ∈ zT := zm (by decide +kernel) (by decide +kernel)
theorem m_142 : (Cond.instanceMethod y_B_narrow) ∈ zT := zm (by decide +kernel) (by decide +kernel)
theorem m_143 : (Cond.code y_B_narrow c_B_narrow 11 (some .boolean)) ∈ zT := zm (by decide +kernel) (by decide +kernel)
theorem m_144 : (Cond.methodLink R_B 55 Lib.Math.abs.name) ∈ zT := zm (by decide +kernel) (by decide +kernel)
theorem m_145 : (Cond.methodLink R_B 38 y_B_dipsBelow) ∈ zT := zm (by decide +kernel) (by decide +kernel)
theorem m_146 : (Cond.instanceMethod y_B_dipsBelow) ∈ zT := zm (by decide +kernel) (by decide +kernel)
theorem m_147 : (Cond.code y_B_dipsBelow c_B_dipsBelow 11 (some .boolean)) ∈ zT := zm (by decide +kernel) (by decide +kernel)
theorem m_148 : (Cond.methodLink R_L 50 y_S_sight) ∈ zT := zm (by decide +kernel) (by decide +kernel)
theorem m_149 : (Cond.instanceMethod y_S_sight) ∈ zT := zm (by decide +kernel) (by decide +kernel)
theorem m_150 : (Cond.selects R_S y_S_sight y_S_sight) ∈ zT := zm (by decide +kernel) (by decide +kernel)
theorem m_151 : (Cond.code y_S_sight c_S_sight 3 (some .int)) ∈ zT := zm (by decide +kernel) (by decide +kernel)
theorem m_152 : (Cond.methodLink R_S 83 y_S_sightFrom) ∈ zT := zm (by decide +kernel) (by decide +kernel)
theorem m_153 : (Cond.instanceMethod y_S_sightFrom) ∈ zT := zm (by decide +kernel) (by decide +kernel)
theorem m_154 : (Cond.code y_S_sightFrom c_S_sightFrom 6 (some .int)) ∈ zT := zm (by decide +kernel) (by decide +kernel)
theorem m_155 : (Cond.methodLink R_L 55 y_S_need) ∈ zT := zm (by decide +kernel) (by decide +kernel)
theorem m_156 : (Cond.instanceMethod y_S_need) ∈ zT := zm (by decide +kernel) (by decide +kernel)
theorem m_157 : (Cond.selects R_S y_S_need y_S_need) ∈ zT := zm (by decide +kernel) (by decide +kernel)
theorem m_158 : (Cond.code y_S_need c_S_need 3 (some .int)) ∈ zT := zm (by decide +kernel) (by decide +kernel)
theorem m_159 : (Cond.methodLink R_S 87 y_S_needWith) ∈ zT := zm (by decide +kernel) (by decide +kernel)
theorem m_160 : (Cond.instanceMethod y_S_needWith) ∈ zT := zm (by decide +kernel) (by decide +kernel)
theorem m_161 : (Cond.code y_S_needWith c_S_needWith 8 (some .int)) ∈ zT := zm (by decide +kernel) (by decide +kernel)
theorem m_162 : (Cond.constantLong R_S 164 10) ∈ zT := zm (by decide +kernel) (by decide +kernel)
theorem m_163 : (Cond.constantLong R_S 166 36) ∈ zT := zm (by decide +kernel) (by decide +kernel)
theorem m_164 : (Cond.constantLong R_S 168 20) ∈ zT := zm (by decide +kernel) (by decide +kernel)
theorem m_165 : (Cond.methodLink R_S 170 y_S_slopeBeyond) ∈ zT := zm (by decide +kernel) (by decide +kernel)
theorem m_166 : (Cond.instanceMethod y_S_slopeBeyond) ∈ zT := zm (by decide +kernel) (by decide +kernel)
theorem m_167 : (Cond.code y_S_slopeBeyond c_S_slopeBeyond 6 (some .long)) ∈ zT := zm (by decide +kernel) (by decide +kernel)
theorem m_168 : (Cond.constantLong R_S 180 981) ∈ zT := zm (by decide +kernel) (by decide +kernel)
theorem m_169 : (Cond.methodLink R_S 174 Lib.MathLoose.max_long.x) ∈ zT := zm (by decide +kernel) (by decide +kernel)
theorem m_170 : (Cond.static Lib.MathLoose.max_long.x) ∈ zT := zm (by decide +kernel) (by decide +kernel)
theorem m_171 : (Cond.code Lib.MathLoose.max_long.x Lib.MathLoose.max_long.code 4 (some .long)) ∈ zT := zm (by decide +kernel) (by decide +kernel)
theorem m_172 : (Cond.constantLong R_S 176 100000) ∈ zT := zm (by decide +kernel) (by decide +kernel)
theorem m_173 : (Cond.constantLong R_S 178 2592) ∈ zT := zm (by decide +kernel) (by decide +kernel)
theorem m_174 : (Cond.methodLink R_L 59 y_S_blind) ∈ zT := zm (by decide +kernel) (by decide +kernel)
theorem m_175 : (Cond.instanceMethod y_S_blind) ∈ zT := zm (by decide +kernel) (by decide +kernel)
theorem m_176 : (Cond.selects R_S y_S_blind y_S_blind) ∈ zT := zm (by decide +kernel) (by decide +kernel)
theorem m_177 : (Cond.code y_S_blind c_S_blind 8 (some .int)) ∈ zT := zm (by decide +kernel) (by decide +kernel)
theorem m_178 : (Cond.methodLink R_S 91 y_S_isBlind) ∈ zT := zm (by decide +kernel) (by decide +kernel)
theorem m_179 : (Cond.instanceMethod y_S_isBlind) ∈ zT := zm (by decide +kernel) (by decide +kernel)
theorem m_180 : (Cond.code y_S_isBlind c_S_isBlind 4 (some .boolean)) ∈ zT := zm (by decide +kernel) (by decide +kernel)
theorem m_181 : (Cond.methodLink R_S 98 y_S_roadBeyond) ∈ zT := zm (by decide +kernel) (by decide +kernel)
theorem m_182 : (Cond.instanceMethod y_S_roadBeyond) ∈ zT := zm (by decide +kernel) (by decide +kernel)
theorem m_183 : (Cond.code y_S_roadBeyond c_S_roadBeyond 3 (some .int)) ∈ zT := zm (by decide +kernel) (by decide +kernel)
theorem m_184 : (Cond.methodLink R_L 64 y_S_setBack) ∈ zT := zm (by decide +kernel) (by decide +kernel)
theorem m_185 : (Cond.instanceMethod y_S_setBack) ∈ zT := zm (by decide +kernel) (by decide +kernel)
theorem m_186 : (Cond.selects R_S y_S_setBack y_S_setBack) ∈ zT := zm (by decide +kernel) (by decide +kernel)
theorem m_187 : (Cond.code y_S_setBack c_S_setBack 7 (some .int)) ∈ zT := zm (by decide +kernel) (by decide +kernel)
theorem m_188 : (Cond.methodLink R_S 95 y_S_widened) ∈ zT := zm (by decide +kernel) (by decide +kernel)
theorem m_189 : (Cond.instanceMethod y_S_widened) ∈ zT := zm (by decide +kernel) (by decide +kernel)
theorem m_190 : (Cond.code y_S_widened c_S_widened 11 (some .int)) ∈ zT := zm (by decide +kernel) (by decide +kernel)
theorem m_191 : (Cond.methodLink R_L 69 y_S_allowed) ∈ zT := zm (by decide +kernel) (by decide +kernel)
theorem m_192 : (Cond.instanceMethod y_S_allowed) ∈ zT := zm (by decide +kernel) (by decide +kernel)
theorem m_193 : (Cond.selects R_S y_S_allowed y_S_allowed) ∈ zT := zm (by decide +kernel) (by decide +kernel)
theorem m_194 : (Cond.code y_S_allowed c_S_allowed 7 (some .int)) ∈ zT := zm (by decide +kernel) (by decide +kernel)
theorem m_195 : (Cond.methodLink R_L 73 y_S_overtake) ∈ zT := zm (by decide +kernel) (by decide +kernel)
theorem m_196 : (Cond.instanceMethod y_S_overtake) ∈ zT := zm (by decide +kernel) (by decide +kernel)
theorem m_197 : (Cond.selects R_S y_S_overtake y_S_overtake) ∈ zT := zm (by decide +kernel) (by decide +kernel)
theorem m_198 : (Cond.code y_S_overtake c_S_overtake 5 (some .int)) ∈ zT := zm (by decide +kernel) (by decide +kernel)
theorem m_199 : (Cond.constant R_S 101 1000000) ∈ zT := zm (by decide +kernel) (by decide +kernel)
theorem m_200 : (Cond.methodLink R_L 77 y_S_seen) ∈ zT := zm (by decide +kernel) (by decide +kernel)
theorem m_201 : (Cond.instanceMethod y_S_seen) ∈ zT := zm (by decide +kernel) (by decide +kernel)
theorem m_202 : (Cond.selects R_S y_S_seen y_S_seen) ∈ zT := zm (by decide +kernel) (by decide +kernel)
theorem m_203 : (Cond.code y_S_seen c_S_seen 7 (some .int)) ∈ zT := zm (by decide +kernel) (by decide +kernel)
theorem m_204 : (Cond.constantLong R_S 111 9000000) ∈ zT := zm (by decide +kernel) (by decide +kernel)
theorem m_205 : (Cond.methodLink R_L 81 y_S_light) ∈ zT := zm (by decide +kernel) (by decide +kernel)
theorem m_206 : (Cond.instanceMethod y_S_light) ∈ zT := zm (by decide +kernel) (by decide +kernel)
theorem m_207 : (Cond.selects R_S y_S_light y_S_light) ∈ zT := zm (by decide +kernel) (by decide +kernel)
theorem m_208 : (Cond.code y_S_light c_S_light 9 (some .int)) ∈ zT := zm (by decide +kernel) (by decide +kernel)
theorem m_209 : (Cond.constantLong R_S 117 100) ∈ zT := zm (by decide +kernel) (by decide +kernel)
theorem m_210 : (Cond.methodLink R_L 85 y_S_count) ∈ zT := zm (by decide +kernel) (by decide +kernel)
theorem m_211 : (Cond.instanceMethod y_S_count) ∈ zT := zm (by decide +kernel) (by decide +kernel)
theorem m_212 : (Cond.selects R_S y_S_count y_S_count) ∈ zT := zm (by decide +kernel) (by decide +kernel)
theorem m_213 : (Cond.code y_S_count c_S_count 2 (some .int)) ∈ zT := zm (by decide +kernel) (by decide +kernel)
theorem m_214 : (Cond.methodLink R_S 122 y_S_freeViews) ∈ zT := zm (by decide +kernel) (by decide +kernel)
theorem m_215 : (Cond.instanceMethod y_S_freeViews) ∈ zT := zm (by decide +kernel) (by decide +kernel)
theorem m_216 : (Cond.code y_S_freeViews c_S_freeViews 4 (some .int)) ∈ zT := zm (by decide +kernel) (by decide +kernel)
theorem m_217 : (Cond.methodLink R_S 126 y_S_blindStations) ∈ zT := zm (by decide +kernel) (by decide +kernel)
theorem m_218 : (Cond.instanceMethod y_S_blindStations) ∈ zT := zm (by decide +kernel) (by decide +kernel)
theorem m_219 : (Cond.code y_S_blindStations c_S_blindStations 4 (some .int)) ∈ zT := zm (by decide +kernel) (by decide +kernel)
theorem m_220 : (Cond.classLink R_L 10 R_M) ∈ zT := zm (by decide +kernel) (by decide +kernel)
theorem m_221 : (Cond.instantiable R_M 17) ∈ zT := zm (by decide +kernel) (by decide +kernel)
theorem m_222 : (Cond.methodLink R_L 12 y_M_init) ∈ zT := zm (by decide +kernel) (by decide +kernel)
theorem m_223 : (Cond.instanceMethod y_M_init) ∈ zT := zm (by decide +kernel) (by decide +kernel)
theorem m_224 : (Cond.code y_M_init c_M_init 1 none) ∈ zT := zm (by decide +kernel) (by decide +kernel)
theorem m_225 : (Cond.methodLink R_M 1 objectInit) ∈ zT := zm (by decide +kernel) (by decide +kernel)
theorem m_226 : (Cond.fieldLink R_M 44 R_M "stations" "I") ∈ zT := zm (by decide +kernel) (by decide +kernel)
theorem m_227 : (Cond.fieldLink R_M 7 R_M "xs" "[I") ∈ zT := zm (by decide +kernel) (by decide +kernel)
theorem m_228 : (Cond.fieldLink R_M 13 R_M "ys" "[I") ∈ zT := zm (by decide +kernel) (by decide +kernel)
theorem m_229 : (Cond.fieldLink R_M 16 R_M "levels" "[I") ∈ zT := zm (by decide +kernel) (by decide +kernel)
theorem m_230 : (Cond.fieldLink R_M 19 R_M "ways" "[I") ∈ zT := zm (by decide +kernel) (by decide +kernel)
theorem m_231 : (Cond.fieldLink R_M 22 R_M "speeds" "[I") ∈ zT := zm (by decide +kernel) (by decide +kernel)
theorem m_232 : (Cond.fieldLink R_M 25 R_M "clears" "[I") ∈ zT := zm (by decide +kernel) (by decide +kernel)
theorem m_233 : (Cond.fieldLink R_M 73 R_M "boxes" "I") ∈ zT := zm (by decide +kernel) (by decide +kernel)
theorem m_234 : (Cond.fieldLink R_M 28 R_M "box" "[I") ∈ zT := zm (by decide +kernel) (by decide +kernel)
theorem m_235 : (Cond.fieldLink R_M 31 R_M "eye" "I") ∈ zT := zm (by decide +kernel) (by decide +kernel)
theorem m_236 : (Cond.fieldLink R_M 35 R_M "thing" "I") ∈ zT := zm (by decide +kernel) (by decide +kernel)
theorem m_237 : (Cond.fieldLink R_M 38 R_M "react" "I") ∈ zT := zm (by decide +kernel) (by decide +kernel)
theorem m_238 : (Cond.fieldLink R_M 41 R_M "brake" "I") ∈ zT := zm (by decide +kernel) (by decide +kernel)
theorem m_239 : (Cond.fieldLink R_M 88 R_M "beginUpper" "J") ∈ zT := zm (by decide +kernel) (by decide +kernel)
theorem m_240 : (Cond.fieldLink R_M 84 R_M "beginLower" "J") ∈ zT := zm (by decide +kernel) (by decide +kernel)
theorem m_241 : (Cond.fieldLink R_M 94 R_M "endUpper" "J") ∈ zT := zm (by decide +kernel) (by decide +kernel)
theorem m_242 : (Cond.fieldLink R_M 91 R_M "endLower" "J") ∈ zT := zm (by decide +kernel) (by decide +kernel)
theorem m_243 : (Cond.methodLink R_L 17 y_M_station) ∈ zT := zm (by decide +kernel) (by decide +kernel)
theorem m_244 : (Cond.instanceMethod y_M_station) ∈ zT := zm (by decide +kernel) (by decide +kernel)
theorem m_245 : (Cond.selects R_M y_M_station y_M_station) ∈ zT := zm (by decide +kernel) (by decide +kernel)
theorem m_246 : (Cond.code y_M_station c_M_station 6 (some .int)) ∈ zT := zm (by decide +kernel) (by decide +kernel)
theorem m_247 : (Cond.methodLink R_M 55 y_M_isPoint) ∈ zT := zm (by decide +kernel) (by decide +kernel)
theorem m_248 : (Cond.static y_M_isPoint) ∈ zT := zm (by decide +kernel) (by decide +kernel)
theorem m_249 : (Cond.code y_M_isPoint c_M_isPoint 2 (some .boolean)) ∈ zT := zm (by decide +kernel) (by decide +kernel)
theorem m_250 : (Cond.methodLink R_M 51 y_M_within) ∈ zT := zm (by decide +kernel) (by decide +kernel)
theorem m_251 : (Cond.static y_M_within) ∈ zT := zm (by decide +kernel) (by decide +kernel)
theorem m_252 : (Cond.code y_M_within c_M_within 3 (some .boolean)) ∈ zT := zm (by decide +kernel) (by decide +kernel)
theorem m_253 : (Cond.constant R_M 59 (-100000)) ∈ zT := zm (by decide +kernel) (by decide +kernel)
theorem m_254 : (Cond.constant R_M 60 100000) ∈ zT := zm (by decide +kernel) (by decide +kernel)
theorem m_255 : (Cond.methodLink R_M 61 y_M_square) ∈ zT := zm (by decide +kernel) (by decide +kernel)
theorem m_256 : (Cond.static y_M_square) ∈ zT := zm (by decide +kernel) (by decide +kernel)
theorem m_257 : (Cond.code y_M_square c_M_square 2 (some .long)) ∈ zT := zm (by decide +kernel) (by decide +kernel)
theorem m_258 : (Cond.methodLink R_M 65 y_M_root) ∈ zT := zm (by decide +kernel) (by decide +kernel)
theorem m_259 : (Cond.static y_M_root) ∈ zT := zm (by decide +kernel) (by decide +kernel)
theorem m_260 : (Cond.code y_M_root c_M_root 9 (some .int)) ∈ zT := zm (by decide +kernel) (by decide +kernel)
theorem m_261 : (Cond.constantLong R_M 47 100000) ∈ zT := zm (by decide +kernel) (by decide +kernel)
theorem m_262 : (Cond.constantLong R_M 49 2) ∈ zT := zm (by decide +kernel) (by decide +kernel)
theorem m_263 : (Cond.methodLink R_L 22 y_M_heights) ∈ zT := zm (by decide +kernel) (by decide +kernel)
theorem m_264 : (Cond.instanceMethod y_M_heights) ∈ zT := zm (by decide +kernel) (by decide +kernel)
theorem m_265 : (Cond.selects R_M y_M_heights y_M_heights) ∈ zT := zm (by decide +kernel) (by decide +kernel)
theorem m_266 : (Cond.code y_M_heights c_M_heights 3 (some .boolean)) ∈ zT := zm (by decide +kernel) (by decide +kernel)
theorem m_267 : (Cond.methodLink R_L 27 y_M_clear) ∈ zT := zm (by decide +kernel) (by decide +kernel)
theorem m_268 : (Cond.instanceMethod y_M_clear) ∈ zT := zm (by decide +kernel) (by decide +kernel)
theorem m_269 : (Cond.selects R_M y_M_clear y_M_clear) ∈ zT := zm (by decide +kernel) (by decide +kernel)
theorem m_270 : (Cond.code y_M_clear c_M_clear 4 (some .boolean)) ∈ zT := zm (by decide +kernel) (by decide +kernel)
theorem m_271 : (Cond.methodLink R_M 69 y_M_isStation) ∈ zT := zm (by decide +kernel) (by decide +kernel)
theorem m_272 : (Cond.instanceMethod y_M_isStation) ∈ zT := zm (by decide +kernel) (by decide +kernel)
theorem m_273 : (Cond.code y_M_isStation c_M_isStation 2 (some .boolean)) ∈ zT := zm (by decide +kernel) (by decide +kernel)
theorem m_274 : (Cond.methodLink R_L 32 y_M_box) ∈ zT := zm (by decide +kernel) (by decide +kernel)
theorem m_275 : (Cond.instanceMethod y_M_box) ∈ zT := zm (by decide +kernel) (by decide +kernel)
theorem m_276 : (Cond.selects R_M y_M_box y_M_box) ∈ zT := zm (by decide +kernel) (by decide +kernel)
theorem m_277 : (Cond.code y_M_box c_M_box 6 (some .int)) ∈ zT := zm (by decide +kernel) (by decide +kernel)
theorem m_278 : (Cond.methodLink R_L 36 y_M_speed) ∈ zT := zm (by decide +kernel) (by decide +kernel)
theorem m_279 : (Cond.instanceMethod y_M_speed) ∈ zT := zm (by decide +kernel) (by decide +kernel)
theorem m_280 : (Cond.selects R_M y_M_speed y_M_speed) ∈ zT := zm (by decide +kernel) (by decide +kernel)
theorem m_281 : (Cond.code y_M_speed c_M_speed 3 (some .boolean)) ∈ zT := zm (by decide +kernel) (by decide +kernel)
theorem m_282 : (Cond.methodLink R_L 40 y_M_brake) ∈ zT := zm (by decide +kernel) (by decide +kernel)
theorem m_283 : (Cond.instanceMethod y_M_brake) ∈ zT := zm (by decide +kernel) (by decide +kernel)
theorem m_284 : (Cond.selects R_M y_M_brake y_M_brake) ∈ zT := zm (by decide +kernel) (by decide +kernel)
theorem m_285 : (Cond.code y_M_brake c_M_brake 3 (some .boolean)) ∈ zT := zm (by decide +kernel) (by decide +kernel)
theorem m_286 : (Cond.methodLink R_L 45 y_M_way) ∈ zT := zm (by decide +kernel) (by decide +kernel)
theorem m_287 : (Cond.instanceMethod y_M_way) ∈ zT := zm (by decide +kernel) (by decide +kernel)
theorem m_288 : (Cond.selects R_M y_M_way y_M_way) ∈ zT := zm (by decide +kernel) (by decide +kernel)
theorem m_289 : (Cond.code y_M_way c_M_way 2 (some .int)) ∈ zT := zm (by decide +kernel) (by decide +kernel)
theorem m_290 : (Cond.methodLink R_L 49 y_M_view) ∈ zT := zm (by decide +kernel) (by decide +kernel)
theorem m_291 : (Cond.instanceMethod y_M_view) ∈ zT := zm (by decide +kernel) (by decide +kernel)
theorem m_292 : (Cond.selects R_M y_M_view y_M_view) ∈ zT := zm (by decide +kernel) (by decide +kernel)
theorem m_293 : (Cond.code y_M_view c_M_view 5 (some .int)) ∈ zT := zm (by decide +kernel) (by decide +kernel)
theorem m_294 : (Cond.methodLink R_M 115 y_M_interrupter) ∈ zT := zm (by decide +kernel) (by decide +kernel)
theorem m_295 : (Cond.instanceMethod y_M_interrupter) ∈ zT := zm (by decide +kernel) (by decide +kernel)
theorem m_296 : (Cond.code y_M_interrupter c_M_interrupter 6 (some .int)) ∈ zT := zm (by decide +kernel) (by decide +kernel)
theorem m_297 : (Cond.methodLink R_M 105 y_M_isAbove) ∈ zT := zm (by decide +kernel) (by decide +kernel)
theorem m_298 : (Cond.instanceMethod y_M_isAbove) ∈ zT := zm (by decide +kernel) (by decide +kernel)
theorem m_299 : (Cond.code y_M_isAbove c_M_isAbove 8 (some .boolean)) ∈ zT := zm (by decide +kernel) (by decide +kernel)
theorem m_300 : (Cond.methodLink R_M 108 y_M_isBanked) ∈ zT := zm (by decide +kernel) (by decide +kernel)
theorem m_301 : (Cond.instanceMethod y_M_isBanked) ∈ zT := zm (by decide +kernel) (by decide +kernel)
theorem m_302 : (Cond.code y_M_isBanked c_M_isBanked 9 (some .boolean)) ∈ zT := zm (by decide +kernel) (by decide +kernel)
theorem m_303 : (Cond.methodLink R_M 76 y_M_beside) ∈ zT := zm (by decide +kernel) (by decide +kernel)
theorem m_304 : (Cond.instanceMethod y_M_beside) ∈ zT := zm (by decide +kernel) (by decide +kernel)
theorem m_305 : (Cond.code y_M_beside c_M_beside 8 (some .long)) ∈ zT := zm (by decide +kernel) (by decide +kernel)
theorem m_306 : (Cond.methodLink R_M 80 y_M_lengthSquare) ∈ zT := zm (by decide +kernel) (by decide +kernel)
theorem m_307 : (Cond.instanceMethod y_M_lengthSquare) ∈ zT := zm (by decide +kernel) (by decide +kernel)
theorem m_308 : (Cond.code y_M_lengthSquare c_M_lengthSquare 3 (some .long)) ∈ zT := zm (by decide +kernel) (by decide +kernel)
theorem m_309 : (Cond.methodLink R_M 111 y_M_isBoxed) ∈ zT := zm (by decide +kernel) (by decide +kernel)
theorem m_310 : (Cond.instanceMethod y_M_isBoxed) ∈ zT := zm (by decide +kernel) (by decide +kernel)
theorem m_311 : (Cond.code y_M_isBoxed c_M_isBoxed 9 (some .boolean)) ∈ zT := zm (by decide +kernel) (by decide +kernel)
theorem m_312 : (Cond.methodLink R_M 97 y_M_cut) ∈ zT := zm (by decide +kernel) (by decide +kernel)
theorem m_313 : (Cond.instanceMethod y_M_cut) ∈ zT := zm (by decide +kernel) (by decide +kernel)
theorem m_314 : (Cond.code y_M_cut c_M_cut 13 (some .boolean)) ∈ zT := zm (by decide +kernel) (by decide +kernel)
theorem m_315 : (Cond.methodLink R_M 101 y_M_isBelow) ∈ zT := zm (by decide +kernel) (by decide +kernel)
theorem m_316 : (Cond.static y_M_isBelow) ∈ zT := zm (by decide +kernel) (by decide +kernel)
theorem m_317 : (Cond.code y_M_isBelow c_M_isBelow 7 (some .boolean)) ∈ zT := zm (by decide +kernel) (by decide +kernel)
theorem m_318 : (Cond.methodLink R_L 54 y_M_sight) ∈ zT := zm (by decide +kernel) (by decide +kernel)
theorem m_319 : (Cond.instanceMethod y_M_sight) ∈ zT := zm (by decide +kernel) (by decide +kernel)
theorem m_320 : (Cond.selects R_M y_M_sight y_M_sight) ∈ zT := zm (by decide +kernel) (by decide +kernel)
theorem m_321 : (Cond.code y_M_sight c_M_sight 3 (some .int)) ∈ zT := zm (by decide +kernel) (by decide +kernel)
theorem m_322 : (Cond.methodLink R_M 135 y_M_sightOf) ∈ zT := zm (by decide +kernel) (by decide +kernel)
theorem m_323 : (Cond.instanceMethod y_M_sightOf) ∈ zT := zm (by decide +kernel) (by decide +kernel)
theorem m_324 : (Cond.code y_M_sightOf c_M_sightOf 5 (some .int)) ∈ zT := zm (by decide +kernel) (by decide +kernel)
theorem m_325 : (Cond.methodLink R_L 58 y_M_need) ∈ zT := zm (by decide +kernel) (by decide +kernel)
theorem m_326 : (Cond.instanceMethod y_M_need) ∈ zT := zm (by decide +kernel) (by decide +kernel)
theorem m_327 : (Cond.selects R_M y_M_need y_M_need) ∈ zT := zm (by decide +kernel) (by decide +kernel)
theorem m_328 : (Cond.code y_M_need c_M_need 3 (some .int)) ∈ zT := zm (by decide +kernel) (by decide +kernel)
theorem m_329 : (Cond.methodLink R_M 127 y_M_needOf) ∈ zT := zm (by decide +kernel) (by decide +kernel)
theorem m_330 : (Cond.instanceMethod y_M_needOf) ∈ zT := zm (by decide +kernel) (by decide +kernel)
theorem m_331 : (Cond.code y_M_needOf c_M_needOf 9 (some .int)) ∈ zT := zm (by decide +kernel) (by decide +kernel)
theorem m_332 : (Cond.constantLong R_M 119 981) ∈ zT := zm (by decide +kernel) (by decide +kernel)
theorem m_333 : (Cond.constantLong R_M 121 10) ∈ zT := zm (by decide +kernel) (by decide +kernel)
theorem m_334 : (Cond.constantLong R_M 123 20) ∈ zT := zm (by decide +kernel) (by decide +kernel)
theorem m_335 : (Cond.constantLong R_M 125 2592) ∈ zT := zm (by decide +kernel) (by decide +kernel)
theorem m_336 : (Cond.methodLink R_L 63 y_M_blind) ∈ zT := zm (by decide +kernel) (by decide +kernel)
theorem m_337 : (Cond.instanceMethod y_M_blind) ∈ zT := zm (by decide +kernel) (by decide +kernel)
theorem m_338 : (Cond.selects R_M y_M_blind y_M_blind) ∈ zT := zm (by decide +kernel) (by decide +kernel)
theorem m_339 : (Cond.code y_M_blind c_M_blind 7 (some .int)) ∈ zT := zm (by decide +kernel) (by decide +kernel)
theorem m_340 : (Cond.methodLink R_M 138 y_M_isBlind) ∈ zT := zm (by decide +kernel) (by decide +kernel)
theorem m_341 : (Cond.instanceMethod y_M_isBlind) ∈ zT := zm (by decide +kernel) (by decide +kernel)
theorem m_342 : (Cond.code y_M_isBlind c_M_isBlind 4 (some .boolean)) ∈ zT := zm (by decide +kernel) (by decide +kernel)
theorem m_343 : (Cond.methodLink R_M 131 y_M_remaining) ∈ zT := zm (by decide +kernel) (by decide +kernel)
theorem m_344 : (Cond.instanceMethod y_M_remaining) ∈ zT := zm (by decide +kernel) (by decide +kernel)
theorem m_345 : (Cond.code y_M_remaining c_M_remaining 3 (some .int)) ∈ zT := zm (by decide +kernel) (by decide +kernel)
theorem m_346 : (Cond.methodLink R_L 68 y_M_setBack) ∈ zT := zm (by decide +kernel) (by decide +kernel)
theorem m_347 : (Cond.instanceMethod y_M_setBack) ∈ zT := zm (by decide +kernel) (by decide +kernel)
theorem m_348 : (Cond.selects R_M y_M_setBack y_M_setBack) ∈ zT := zm (by decide +kernel) (by decide +kernel)
theorem m_349 : (Cond.code y_M_setBack c_M_setBack 10 (some .int)) ∈ zT := zm (by decide +kernel) (by decide +kernel)
theorem m_350 : (Cond.methodLink R_L 72 y_M_allowed) ∈ zT := zm (by decide +kernel) (by decide +kernel)
theorem m_351 : (Cond.instanceMethod y_M_allowed) ∈ zT := zm (by decide +kernel) (by decide +kernel)
theorem m_352 : (Cond.selects R_M y_M_allowed y_M_allowed) ∈ zT := zm (by decide +kernel) (by decide +kernel)
theorem m_353 : (Cond.code y_M_allowed c_M_allowed 6 (some .int)) ∈ zT := zm (by decide +kernel) (by decide +kernel)
theorem m_354 : (Cond.methodLink R_L 76 y_M_overtake) ∈ zT := zm (by decide +kernel) (by decide +kernel)
theorem m_355 : (Cond.instanceMethod y_M_overtake) ∈ zT := zm (by decide +kernel) (by decide +kernel)
theorem m_356 : (Cond.selects R_M y_M_overtake y_M_overtake) ∈ zT := zm (by decide +kernel) (by decide +kernel)
theorem m_357 : (Cond.code y_M_overtake c_M_overtake 7 (some .int)) ∈ zT := zm (by decide +kernel) (by decide +kernel)
theorem m_358 : (Cond.constant R_M 142 1000000) ∈ zT := zm (by decide +kernel) (by decide +kernel)
theorem m_359 : (Cond.methodLink R_L 80 y_M_seen) ∈ zT := zm (by decide +kernel) (by decide +kernel)
theorem m_360 : (Cond.instanceMethod y_M_seen) ∈ zT := zm (by decide +kernel) (by decide +kernel)
theorem m_361 : (Cond.selects R_M y_M_seen y_M_seen) ∈ zT := zm (by decide +kernel) (by decide +kernel)
theorem m_362 : (Cond.code y_M_seen c_M_seen 8 (some .int)) ∈ zT := zm (by decide +kernel) (by decide +kernel)
theorem m_363 : (Cond.constantLong R_M 143 9000000) ∈ zT := zm (by decide +kernel) (by decide +kernel)
theorem m_364 : (Cond.methodLink R_L 84 y_M_light) ∈ zT := zm (by decide +kernel) (by decide +kernel)
theorem m_365 : (Cond.instanceMethod y_M_light) ∈ zT := zm (by decide +kernel) (by decide +kernel)
theorem m_366 : (Cond.selects R_M y_M_light y_M_light) ∈ zT := zm (by decide +kernel) (by decide +kernel)
theorem m_367 : (Cond.code y_M_light c_M_light 5 (some .int)) ∈ zT := zm (by decide +kernel) (by decide +kernel)
theorem m_368 : (Cond.methodLink R_L 88 y_M_count) ∈ zT := zm (by decide +kernel) (by decide +kernel)
theorem m_369 : (Cond.instanceMethod y_M_count) ∈ zT := zm (by decide +kernel) (by decide +kernel)
theorem m_370 : (Cond.selects R_M y_M_count y_M_count) ∈ zT := zm (by decide +kernel) (by decide +kernel)
theorem m_371 : (Cond.code y_M_count c_M_count 5 (some .int)) ∈ zT := zm (by decide +kernel) (by decide +kernel)
theorem m_372 : (Cond.selects R_S y_S_stepBetween y_S_stepBetween) ∈ zT := zm (by decide +kernel) (by decide +kernel)
theorem m_373 : (Cond.selects R_S y_S_squareBetween y_S_squareBetween) ∈ zT := zm (by decide +kernel) (by decide +kernel)
theorem m_374 : (Cond.selects R_S y_S_isStation y_S_isStation) ∈ zT := zm (by decide +kernel) (by decide +kernel)
theorem m_375 : (Cond.selects R_B y_B_add y_B_add) ∈ zT := zm (by decide +kernel) (by decide +kernel)
theorem m_376 : (Cond.selects R_S y_S_interruption y_S_interruption) ∈ zT := zm (by decide +kernel) (by decide +kernel)
theorem m_377 : (Cond.selects R_S y_S_isGroundAbove y_S_isGroundAbove) ∈ zT := zm (by decide +kernel) (by decide +kernel)
theorem m_378 : (Cond.selects R_S y_S_isBankInWay y_S_isBankInWay) ∈ zT := zm (by decide +kernel) (by decide +kernel)
theorem m_379 : (Cond.selects R_S y_S_crossAt y_S_crossAt) ∈ zT := zm (by decide +kernel) (by decide +kernel)
theorem m_380 : (Cond.selects R_B y_B_firstAcross y_B_firstAcross) ∈ zT := zm (by decide +kernel) (by decide +kernel)
theorem m_381 : (Cond.selects R_B y_B_takeWhole y_B_takeWhole) ∈ zT := zm (by decide +kernel) (by decide +kernel)
theorem m_382 : (Cond.selects R_B y_B_narrow y_B_narrow) ∈ zT := zm (by decide +kernel) (by decide +kernel)
theorem m_383 : (Cond.selects R_B y_B_dipsBelow y_B_dipsBelow) ∈ zT := zm (by decide +kernel) (by decide +kernel)
theorem m_384 : (Cond.selects R_S y_S_sightFrom y_S_sightFrom) ∈ zT := zm (by decide +kernel) (by decide +kernel)
theorem m_385 : (Cond.selects R_S y_S_needWith y_S_needWith) ∈ zT := zm (by decide +kernel) (by decide +kernel)
theorem m_386 : (Cond.selects R_S y_S_slopeBeyond y_S_slopeBeyond) ∈ zT := zm (by decide +kernel) (by decide +kernel)
theorem m_387 : (Cond.selects R_S y_S_isBlind y_S_isBlind) ∈ zT := zm (by decide +kernel) (by decide +kernel)
theorem m_388 : (Cond.selects R_S y_S_roadBeyond y_S_roadBeyond) ∈ zT := zm (by decide +kernel) (by decide +kernel)
theorem m_389 : (Cond.selects R_S y_S_widened y_S_widened) ∈ zT := zm (by decide +kernel) (by decide +kernel)
theorem m_390 : (Cond.selects R_S y_S_freeViews y_S_freeViews) ∈ zT := zm (by decide +kernel) (by decide +kernel)
theorem m_391 : (Cond.selects R_S y_S_blindStations y_S_blindStations) ∈ zT := zm (by decide +kernel) (by decide +kernel)
theorem m_392 : (Cond.selects R_M y_M_isStation y_M_isStation) ∈ zT := zm (by decide +kernel) (by decide +kernel)
theorem m_393 : (Cond.selects R_M y_M_interrupter y_M_interrupter) ∈ zT := zm (by decide +kernel) (by decide +kernel)
theorem m_394 : (Cond.selects R_M y_M_isAbove y_M_isAbove) ∈ zT := zm (by decide +kernel) (by decide +kernel)
theorem m_395 : (Cond.selects R_M y_M_isBanked y_M_isBanked) ∈ zT := zm (by decide +kernel) (by decide +kernel)
theorem m_396 : (Cond.selects R_M y_M_beside y_M_beside) ∈ zT := zm (by decide +kernel) (by decide +kernel)
theorem m_397 : (Cond.selects R_M y_M_lengthSquare y_M_lengthSquare) ∈ zT := zm (by decide +kernel) (by decide +kernel)
theorem m_398 : (Cond.selects R_M y_M_isBoxed y_M_isBoxed) ∈ zT := zm (by decide +kernel) (by decide +kernel)
theorem m_399 : (Cond.selects R_M y_M_cut y_M_cut) ∈ zT := zm (by decide +kernel) (by decide +kernel)
theorem m_400 : (Cond.selects R_M y_M_sightOf y_M_sightOf) ∈ zT := zm (by decide +kernel) (by decide +kernel)
theorem m_401 : (Cond.selects R_M y_M_needOf y_M_needOf) ∈ zT := zm (by decide +kernel) (by decide +kernel)
theorem m_402 : (Cond.selects R_M y_M_isBlind y_M_isBlind) ∈ zT := zm (by decide +kernel) (by decide +kernel)
theorem m_403 : (Cond.selects R_M y_M_remaining y_M_remaining) ∈ zT := zm (by decide +kernel) (by decide +kernel)
theorem i_B : ∀ w ∈ u_ws R_B T_B 10, w ∈ zT := by decide +kernel
theorem i_S : ∀ w ∈ u_ws R_S T_S 13, w ∈ zT := by decide +kernel
theorem i_M : ∀ w ∈ u_ws R_M T_M 17, w ∈ zT := by decide +kernel
abbrev classes : List vw_C := [(R_B, T_B, 10), (R_S, T_S, 13), (R_M, T_M, 17)]
end
